theorem pr_risk0 {I : Nat → Int32} {J : Nat → Int64} {A : Nat → Nat → Int32} {L : Nat → Nat → Int64} {i : Nat → Int32} {a : Nat → Nat → Int32} {l9 : Nat → Nat → Int64} (h : pu_Rel I J A L i a l9) (o : Nat → Int64) (x2 x3 : Int32) : st_risk pu_Rel I J A L i a l9 o 0 x2 x3 := by
  obtain ⟨h1, h2, h3, h4, h5, h6, h7, h8, h9, h10, h11, h12, h13, h14, h15, h16, h17⟩ := h
  unfold st_risk
  obtain ⟨p1, p2, p3, p4, p5⟩ := h7
  have h7 : pu_Rrk 0 (I 10) (A 16) (A 17) (a 8) (a 9) (a 10) := ⟨p1, p2, p3, p4, p5⟩
  have p1 : a 8 (0 : Int32).toNatClampNeg = I 10 := p1
  have w0 : (0 : Int32) ≤ (0 : Int32) ∧ (0 : Int32) < 4 := by decide
  have w9 : (0 : Int32) < 4 ∧ (0 : Int32) < 4 := by decide
  have ix4 : gx_ix (0 : Int32) 4 = true := by decide
  have z1 : (1 : Int32).toInt = 1 := rfl
  have kt : (I 10).toNatClampNeg = (I 10).toInt.toNat := rfl
  have e5 := pu_a3 (k := I 10) (n := 0) 0 rfl (by omega) p2 (by omega)
  have em : ((0 + I 10 - 1 : Int32)).toInt = 0 + (I 10).toInt - 1 := by
    rw [pu_sub (by omega) (by omega), e5.1, z1]
    omega
  have mr : (if I 10 = 0 then some (1 : Int32) else if gx_ix (0 + I 10 - 1) 20 = true then gx_b1 (if x2 ≤ a 9 (0 + I 10 - 1).toNatClampNeg then some (0 : Int32) else some 1) (fun j => some j) else none) = some (if (I 10 = 0 ∨ A 16 (I 10 - 1).toNatClampNeg < x2) then 1 else 0) := by
    by_cases c : I 10 = 0
    · rw [if_pos c, if_pos (Or.inl c)]
    · have c3 : (I 10).toInt ≠ 0 := fun hh => c (Int32.toInt_inj.1 hh)
      have e1 : (I 10 - 1).toInt = (I 10).toInt - 1 := by
        rw [pu_sub (by omega) (by omega), z1]
      have t1 : (I 10 - 1).toNatClampNeg = (I 10 - 1).toInt.toNat := rfl
      have t2 : (0 + I 10 - 1).toNatClampNeg = (0 + I 10 - 1).toInt.toNat := rfl
      have ix : gx_ix (0 + I 10 - 1) 20 = true := pu_ix (by omega) (by omega)
      have ev : a 9 (0 + I 10 - 1).toNatClampNeg = A 16 (I 10 - 1).toNatClampNeg := by
        rw [show (0 + I 10 - 1).toNatClampNeg = 5 * 0 + (I 10 - 1).toNatClampNeg by omega]
        exact (p4 _ (by omega)).1
      rw [if_neg c, if_pos ix, ev]
      by_cases g9 : x2 ≤ A 16 (I 10 - 1).toNatClampNeg
      · rw [if_pos g9, if_neg (fun hh => hh.elim c (fun h9 => absurd h9 (Int32.not_lt.2 g9)))]
        rfl
      · rw [if_neg g9, if_pos (Or.inr (Int32.not_le.1 g9))]
        rfl
  by_cases c1 : I 10 < 5
  · skip
    by_cases c2 : (-60000 : Int32) ≤ x2 ∧ x2 ≤ 60000
    · skip
      by_cases c3 : I 10 = 0 ∨ A 16 (I 10 - 1).toNatClampNeg < x2
      · skip
        by_cases c4 : (0 : Int32) ≤ x3 ∧ x3 ≤ 1000
        · skip
          have d1 : (I 10).toInt < 5 := Int32.lt_iff_toInt_lt.1 c1
          have d2 : (I 10).toNatClampNeg < 5 := by omega
          have ix5 : gx_ix (I 10) 5 = true := pu_ix p2 (by omega)
          have ix20 : gx_ix (0 + I 10) 20 = true := pu_ix (by omega) (by omega)
          have en : I 10 + 1 - 1 = I 10 := by
            apply Int32.toInt_inj.1
            have s1 : (I 10 + 1).toInt = (I 10).toInt + 1 := by
              rw [pu_add (by omega) (by omega), z1]
            rw [pu_sub (by omega) (by omega), s1, z1]
            omega
          refine Or.inl ⟨upd (A 16) (I 10).toNatClampNeg x2, upd (A 17) (I 10).toNatClampNeg x3, I 10 + 1, A 18, A 19, I 11, A 20, A 21, I 12, A 22, A 23, I 13, vp_updL o (0 : Int32).toNatClampNeg (I 10).toInt64, I 10, 0, upd (a 9) (5 * 0 + (I 10).toNatClampNeg) x2, upd (a 10) (5 * 0 + (I 10).toNatClampNeg) x3, upd (a 8) 0 (I 10 + 1), ?_, ?_, rfl, (lg_cmp_eq _ _).2 pk_uLs, ⟨h1, h2, h3, h4, h5, h6, (pu_rkN h7 d1 c3 x3), (pu_rkO (r := 0) (by decide) h8 d2 (I 10 + 1) x2 x3), (pu_rkO (r := 0) (by decide) h9 d2 (I 10 + 1) x2 x3), (pu_rkO (r := 0) (by decide) h10 d2 (I 10 + 1) x2 x3), h11, h12, h13, h14, h15, h16, h17⟩⟩
          · simp only [fn_Law_risk, fn_Room_risk, fn_Steps_append, pu_rix, pu_rsp, pu_rin, pu_rise p2 p3, if_pos w0, if_pos (by decide : (0 : Int32) = 0), ↓reduceIte, if_pos ix5, if_pos c1, if_pos c2, if_pos c3, if_pos c4, if_neg (fun hh : ¬ I 10 < 5 => hh c1), en] <;> rfl
          · simp only [fn_Model_risk, pu_mw, pu_le3, pu_ml, pu_b1, if_pos w0, if_pos w9, if_neg pu_n0, if_pos ix4, p1, show (5 : Int32) * 0 = 0 from rfl, mr, pu_nle 5, pu_goes, pu_b2, ↓reduceIte, if_pos ix20, e5.2, if_pos c1, if_pos c2, if_pos c3, if_pos c4, if_neg (fun hh : ¬ I 10 < 5 => hh c1)] <;> rfl
        · skip
          refine Or.inr (Or.inr (Or.inr ⟨0, 3, a 9, a 10, a 8, ?_, ?_, rfl, ⟨h1, h2, h3, h4, h5, h6, h7, h8, h9, h10, h11, h12, h13, h14, h15, h16, h17⟩⟩))
          · simp only [fn_Room_risk, pu_rix, pu_rsp, pu_rin, pu_rise p2 p3, if_pos w0, if_pos (by decide : (0 : Int32) = 0), ↓reduceIte, if_pos c1, if_pos c2, if_pos c3, if_neg c4, if_neg (fun hh : ¬ I 10 < 5 => hh c1)] <;> rfl
          · simp only [fn_Model_risk, pu_mw, pu_le3, pu_ml, pu_b1, if_pos w0, if_pos w9, if_neg pu_n0, if_pos ix4, p1, show (5 : Int32) * 0 = 0 from rfl, mr, pu_nle 5, pu_goes, pu_b2, ↓reduceIte, if_pos c1, if_pos c2, if_pos c3, if_neg c4, if_neg (fun hh : ¬ I 10 < 5 => hh c1)] <;> rfl
      · skip
        by_cases c4 : (0 : Int32) ≤ x3 ∧ x3 ≤ 1000
        · skip
          refine Or.inr (Or.inr (Or.inr ⟨0, 3, a 9, a 10, a 8, ?_, ?_, rfl, ⟨h1, h2, h3, h4, h5, h6, h7, h8, h9, h10, h11, h12, h13, h14, h15, h16, h17⟩⟩))
          · simp only [fn_Room_risk, pu_rix, pu_rsp, pu_rin, pu_rise p2 p3, if_pos w0, if_pos (by decide : (0 : Int32) = 0), ↓reduceIte, if_pos c1, if_pos c2, if_neg c3, if_pos c4, if_neg (fun hh : ¬ I 10 < 5 => hh c1)] <;> rfl
          · simp only [fn_Model_risk, pu_mw, pu_le3, pu_ml, pu_b1, if_pos w0, if_pos w9, if_neg pu_n0, if_pos ix4, p1, show (5 : Int32) * 0 = 0 from rfl, mr, pu_nle 5, pu_goes, pu_b2, ↓reduceIte, if_pos c1, if_pos c2, if_neg c3, if_pos c4, if_neg (fun hh : ¬ I 10 < 5 => hh c1)] <;> rfl
        · skip
          refine Or.inr (Or.inr (Or.inr ⟨0, 3, a 9, a 10, a 8, ?_, ?_, rfl, ⟨h1, h2, h3, h4, h5, h6, h7, h8, h9, h10, h11, h12, h13, h14, h15, h16, h17⟩⟩))
          · simp only [fn_Room_risk, pu_rix, pu_rsp, pu_rin, pu_rise p2 p3, if_pos w0, if_pos (by decide : (0 : Int32) = 0), ↓reduceIte, if_pos c1, if_pos c2, if_neg c3, if_neg c4, if_neg (fun hh : ¬ I 10 < 5 => hh c1)] <;> rfl
          · simp only [fn_Model_risk, pu_mw, pu_le3, pu_ml, pu_b1, if_pos w0, if_pos w9, if_neg pu_n0, if_pos ix4, p1, show (5 : Int32) * 0 = 0 from rfl, mr, pu_nle 5, pu_goes, pu_b2, ↓reduceIte, if_pos c1, if_pos c2, if_neg c3, if_neg c4, if_neg (fun hh : ¬ I 10 < 5 => hh c1)] <;> rfl
    · skip
      by_cases c3 : I 10 = 0 ∨ A 16 (I 10 - 1).toNatClampNeg < x2
      · skip
        by_cases c4 : (0 : Int32) ≤ x3 ∧ x3 ≤ 1000
        · skip
          refine Or.inr (Or.inr (Or.inr ⟨0, 3, a 9, a 10, a 8, ?_, ?_, rfl, ⟨h1, h2, h3, h4, h5, h6, h7, h8, h9, h10, h11, h12, h13, h14, h15, h16, h17⟩⟩))
          · simp only [fn_Room_risk, pu_rix, pu_rsp, pu_rin, pu_rise p2 p3, if_pos w0, if_pos (by decide : (0 : Int32) = 0), ↓reduceIte, if_pos c1, if_neg c2, if_pos c3, if_pos c4, if_neg (fun hh : ¬ I 10 < 5 => hh c1)] <;> rfl
          · simp only [fn_Model_risk, pu_mw, pu_le3, pu_ml, pu_b1, if_pos w0, if_pos w9, if_neg pu_n0, if_pos ix4, p1, show (5 : Int32) * 0 = 0 from rfl, mr, pu_nle 5, pu_goes, pu_b2, ↓reduceIte, if_pos c1, if_neg c2, if_pos c3, if_pos c4, if_neg (fun hh : ¬ I 10 < 5 => hh c1)] <;> rfl
        · skip
          refine Or.inr (Or.inr (Or.inr ⟨0, 3, a 9, a 10, a 8, ?_, ?_, rfl, ⟨h1, h2, h3, h4, h5, h6, h7, h8, h9, h10, h11, h12, h13, h14, h15, h16, h17⟩⟩))
          · simp only [fn_Room_risk, pu_rix, pu_rsp, pu_rin, pu_rise p2 p3, if_pos w0, if_pos (by decide : (0 : Int32) = 0), ↓reduceIte, if_pos c1, if_neg c2, if_pos c3, if_neg c4, if_neg (fun hh : ¬ I 10 < 5 => hh c1)] <;> rfl
          · simp only [fn_Model_risk, pu_mw, pu_le3, pu_ml, pu_b1, if_pos w0, if_pos w9, if_neg pu_n0, if_pos ix4, p1, show (5 : Int32) * 0 = 0 from rfl, mr, pu_nle 5, pu_goes, pu_b2, ↓reduceIte, if_pos c1, if_neg c2, if_pos c3, if_neg c4, if_neg (fun hh : ¬ I 10 < 5 => hh c1)] <;> rfl
      · skip
        by_cases c4 : (0 : Int32) ≤ x3 ∧ x3 ≤ 1000
        · skip
          refine Or.inr (Or.inr (Or.inr ⟨0, 3, a 9, a 10, a 8, ?_, ?_, rfl, ⟨h1, h2, h3, h4, h5, h6, h7, h8, h9, h10, h11, h12, h13, h14, h15, h16, h17⟩⟩))
          · simp only [fn_Room_risk, pu_rix, pu_rsp, pu_rin, pu_rise p2 p3, if_pos w0, if_pos (by decide : (0 : Int32) = 0), ↓reduceIte, if_pos c1, if_neg c2, if_neg c3, if_pos c4, if_neg (fun hh : ¬ I 10 < 5 => hh c1)] <;> rfl
          · simp only [fn_Model_risk, pu_mw, pu_le3, pu_ml, pu_b1, if_pos w0, if_pos w9, if_neg pu_n0, if_pos ix4, p1, show (5 : Int32) * 0 = 0 from rfl, mr, pu_nle 5, pu_goes, pu_b2, ↓reduceIte, if_pos c1, if_neg c2, if_neg c3, if_pos c4, if_neg (fun hh : ¬ I 10 < 5 => hh c1)] <;> rfl
        · skip
          refine Or.inr (Or.inr (Or.inr ⟨0, 3, a 9, a 10, a 8, ?_, ?_, rfl, ⟨h1, h2, h3, h4, h5, h6, h7, h8, h9, h10, h11, h12, h13, h14, h15, h16, h17⟩⟩))
          · simp only [fn_Room_risk, pu_rix, pu_rsp, pu_rin, pu_rise p2 p3, if_pos w0, if_pos (by decide : (0 : Int32) = 0), ↓reduceIte, if_pos c1, if_neg c2, if_neg c3, if_neg c4, if_neg (fun hh : ¬ I 10 < 5 => hh c1)] <;> rfl
          · simp only [fn_Model_risk, pu_mw, pu_le3, pu_ml, pu_b1, if_pos w0, if_pos w9, if_neg pu_n0, if_pos ix4, p1, show (5 : Int32) * 0 = 0 from rfl, mr, pu_nle 5, pu_goes, pu_b2, ↓reduceIte, if_pos c1, if_neg c2, if_neg c3, if_neg c4, if_neg (fun hh : ¬ I 10 < 5 => hh c1)] <;> rfl
  · skip
    by_cases c2 : (-60000 : Int32) ≤ x2 ∧ x2 ≤ 60000
    · skip
      by_cases c3 : I 10 = 0 ∨ A 16 (I 10 - 1).toNatClampNeg < x2
      · skip
        by_cases c4 : (0 : Int32) ≤ x3 ∧ x3 ≤ 1000
        · skip
          refine Or.inr (Or.inr (Or.inl ⟨0, 2, a 9, a 10, a 8, ?_, ?_, rfl, ⟨h1, h2, h3, h4, h5, h6, h7, h8, h9, h10, h11, h12, h13, h14, h15, h16, h17⟩⟩))
          · simp only [fn_Room_risk, pu_rix, pu_rsp, pu_rin, pu_rise p2 p3, if_pos w0, if_pos (by decide : (0 : Int32) = 0), ↓reduceIte, if_neg c1, if_pos c2, if_pos c3, if_pos c4, if_pos (c1 : ¬ I 10 < 5)] <;> rfl
          · simp only [fn_Model_risk, pu_mw, pu_le3, pu_ml, pu_b1, if_pos w0, if_pos w9, if_neg pu_n0, if_pos ix4, p1, show (5 : Int32) * 0 = 0 from rfl, mr, pu_nle 5, pu_goes, pu_b2, ↓reduceIte, if_neg c1, if_pos c2, if_pos c3, if_pos c4, if_pos (c1 : ¬ I 10 < 5)] <;> rfl
        · skip
          refine Or.inr (Or.inr (Or.inl ⟨0, 2, a 9, a 10, a 8, ?_, ?_, rfl, ⟨h1, h2, h3, h4, h5, h6, h7, h8, h9, h10, h11, h12, h13, h14, h15, h16, h17⟩⟩))
          · simp only [fn_Room_risk, pu_rix, pu_rsp, pu_rin, pu_rise p2 p3, if_pos w0, if_pos (by decide : (0 : Int32) = 0), ↓reduceIte, if_neg c1, if_pos c2, if_pos c3, if_neg c4, if_pos (c1 : ¬ I 10 < 5)] <;> rfl
          · simp only [fn_Model_risk, pu_mw, pu_le3, pu_ml, pu_b1, if_pos w0, if_pos w9, if_neg pu_n0, if_pos ix4, p1, show (5 : Int32) * 0 = 0 from rfl, mr, pu_nle 5, pu_goes, pu_b2, ↓reduceIte, if_neg c1, if_pos c2, if_pos c3, if_neg c4, if_pos (c1 : ¬ I 10 < 5)] <;> rfl
      · skip
        by_cases c4 : (0 : Int32) ≤ x3 ∧ x3 ≤ 1000
        · skip
          refine Or.inr (Or.inr (Or.inl ⟨0, 2, a 9, a 10, a 8, ?_, ?_, rfl, ⟨h1, h2, h3, h4, h5, h6, h7, h8, h9, h10, h11, h12, h13, h14, h15, h16, h17⟩⟩))
          · simp only [fn_Room_risk, pu_rix, pu_rsp, pu_rin, pu_rise p2 p3, if_pos w0, if_pos (by decide : (0 : Int32) = 0), ↓reduceIte, if_neg c1, if_pos c2, if_neg c3, if_pos c4, if_pos (c1 : ¬ I 10 < 5)] <;> rfl
          · simp only [fn_Model_risk, pu_mw, pu_le3, pu_ml, pu_b1, if_pos w0, if_pos w9, if_neg pu_n0, if_pos ix4, p1, show (5 : Int32) * 0 = 0 from rfl, mr, pu_nle 5, pu_goes, pu_b2, ↓reduceIte, if_neg c1, if_pos c2, if_neg c3, if_pos c4, if_pos (c1 : ¬ I 10 < 5)] <;> rfl
        · skip
          refine Or.inr (Or.inr (Or.inl ⟨0, 2, a 9, a 10, a 8, ?_, ?_, rfl, ⟨h1, h2, h3, h4, h5, h6, h7, h8, h9, h10, h11, h12, h13, h14, h15, h16, h17⟩⟩))
          · simp only [fn_Room_risk, pu_rix, pu_rsp, pu_rin, pu_rise p2 p3, if_pos w0, if_pos (by decide : (0 : Int32) = 0), ↓reduceIte, if_neg c1, if_pos c2, if_neg c3, if_neg c4, if_pos (c1 : ¬ I 10 < 5)] <;> rfl
          · simp only [fn_Model_risk, pu_mw, pu_le3, pu_ml, pu_b1, if_pos w0, if_pos w9, if_neg pu_n0, if_pos ix4, p1, show (5 : Int32) * 0 = 0 from rfl, mr, pu_nle 5, pu_goes, pu_b2, ↓reduceIte, if_neg c1, if_pos c2, if_neg c3, if_neg c4, if_pos (c1 : ¬ I 10 < 5)] <;> rfl
    · skip
      by_cases c3 : I 10 = 0 ∨ A 16 (I 10 - 1).toNatClampNeg < x2
      · skip
        by_cases c4 : (0 : Int32) ≤ x3 ∧ x3 ≤ 1000
        · skip
          refine Or.inr (Or.inr (Or.inl ⟨0, 2, a 9, a 10, a 8, ?_, ?_, rfl, ⟨h1, h2, h3, h4, h5, h6, h7, h8, h9, h10, h11, h12, h13, h14, h15, h16, h17⟩⟩))
          · simp only [fn_Room_risk, pu_rix, pu_rsp, pu_rin, pu_rise p2 p3, if_pos w0, if_pos (by decide : (0 : Int32) = 0), ↓reduceIte, if_neg c1, if_neg c2, if_pos c3, if_pos c4, if_pos (c1 : ¬ I 10 < 5)] <;> rfl
          · simp only [fn_Model_risk, pu_mw, pu_le3, pu_ml, pu_b1, if_pos w0, if_pos w9, if_neg pu_n0, if_pos ix4, p1, show (5 : Int32) * 0 = 0 from rfl, mr, pu_nle 5, pu_goes, pu_b2, ↓reduceIte, if_neg c1, if_neg c2, if_pos c3, if_pos c4, if_pos (c1 : ¬ I 10 < 5)] <;> rfl
        · skip
          refine Or.inr (Or.inr (Or.inl ⟨0, 2, a 9, a 10, a 8, ?_, ?_, rfl, ⟨h1, h2, h3, h4, h5, h6, h7, h8, h9, h10, h11, h12, h13, h14, h15, h16, h17⟩⟩))
          · simp only [fn_Room_risk, pu_rix, pu_rsp, pu_rin, pu_rise p2 p3, if_pos w0, if_pos (by decide : (0 : Int32) = 0), ↓reduceIte, if_neg c1, if_neg c2, if_pos c3, if_neg c4, if_pos (c1 : ¬ I 10 < 5)] <;> rfl
          · simp only [fn_Model_risk, pu_mw, pu_le3, pu_ml, pu_b1, if_pos w0, if_pos w9, if_neg pu_n0, if_pos ix4, p1, show (5 : Int32) * 0 = 0 from rfl, mr, pu_nle 5, pu_goes, pu_b2, ↓reduceIte, if_neg c1, if_neg c2, if_pos c3, if_neg c4, if_pos (c1 : ¬ I 10 < 5)] <;> rfl
      · skip
        by_cases c4 : (0 : Int32) ≤ x3 ∧ x3 ≤ 1000
        · skip
          refine Or.inr (Or.inr (Or.inl ⟨0, 2, a 9, a 10, a 8, ?_, ?_, rfl, ⟨h1, h2, h3, h4, h5, h6, h7, h8, h9, h10, h11, h12, h13, h14, h15, h16, h17⟩⟩))
          · simp only [fn_Room_risk, pu_rix, pu_rsp, pu_rin, pu_rise p2 p3, if_pos w0, if_pos (by decide : (0 : Int32) = 0), ↓reduceIte, if_neg c1, if_neg c2, if_neg c3, if_pos c4, if_pos (c1 : ¬ I 10 < 5)] <;> rfl
          · simp only [fn_Model_risk, pu_mw, pu_le3, pu_ml, pu_b1, if_pos w0, if_pos w9, if_neg pu_n0, if_pos ix4, p1, show (5 : Int32) * 0 = 0 from rfl, mr, pu_nle 5, pu_goes, pu_b2, ↓reduceIte, if_neg c1, if_neg c2, if_neg c3, if_pos c4, if_pos (c1 : ¬ I 10 < 5)] <;> rfl
        · skip
          refine Or.inr (Or.inr (Or.inl ⟨0, 2, a 9, a 10, a 8, ?_, ?_, rfl, ⟨h1, h2, h3, h4, h5, h6, h7, h8, h9, h10, h11, h12, h13, h14, h15, h16, h17⟩⟩))
          · simp only [fn_Room_risk, pu_rix, pu_rsp, pu_rin, pu_rise p2 p3, if_pos w0, if_pos (by decide : (0 : Int32) = 0), ↓reduceIte, if_neg c1, if_neg c2, if_neg c3, if_neg c4, if_pos (c1 : ¬ I 10 < 5)] <;> rfl
          · simp only [fn_Model_risk, pu_mw, pu_le3, pu_ml, pu_b1, if_pos w0, if_pos w9, if_neg pu_n0, if_pos ix4, p1, show (5 : Int32) * 0 = 0 from rfl, mr, pu_nle 5, pu_goes, pu_b2, ↓reduceIte, if_neg c1, if_neg c2, if_neg c3, if_neg c4, if_pos (c1 : ¬ I 10 < 5)] <;> rfl
theorem pr_risk1 {I : Nat → Int32} {J : Nat → Int64} {A : Nat → Nat → Int32} {L : Nat → Nat → Int64} {i : Nat → Int32} {a : Nat → Nat → Int32} {l9 : Nat → Nat → Int64} (h : pu_Rel I J A L i a l9) (o : Nat → Int64) (x2 x3 : Int32) : st_risk pu_Rel I J A L i a l9 o 1 x2 x3 := by
  obtain ⟨h1, h2, h3, h4, h5, h6, h7, h8, h9, h10, h11, h12, h13, h14, h15, h16, h17⟩ := h
  unfold st_risk
  obtain ⟨p1, p2, p3, p4, p5⟩ := h8
  have h8 : pu_Rrk 1 (I 11) (A 18) (A 19) (a 8) (a 9) (a 10) := ⟨p1, p2, p3, p4, p5⟩
  have p1 : a 8 (1 : Int32).toNatClampNeg = I 11 := p1
  have w0 : (0 : Int32) ≤ (1 : Int32) ∧ (1 : Int32) < 4 := by decide
  have w9 : (0 : Int32) < 4 ∧ (1 : Int32) < 4 := by decide
  have ix4 : gx_ix (1 : Int32) 4 = true := by decide
  have z1 : (1 : Int32).toInt = 1 := rfl
  have kt : (I 11).toNatClampNeg = (I 11).toInt.toNat := rfl
  have e5 := pu_a3 (k := I 11) (n := 5) 5 rfl (by omega) p2 (by omega)
  have em : ((5 + I 11 - 1 : Int32)).toInt = 5 + (I 11).toInt - 1 := by
    rw [pu_sub (by omega) (by omega), e5.1, z1]
    omega
  have mr : (if I 11 = 0 then some (1 : Int32) else if gx_ix (5 + I 11 - 1) 20 = true then gx_b1 (if x2 ≤ a 9 (5 + I 11 - 1).toNatClampNeg then some (0 : Int32) else some 1) (fun j => some j) else none) = some (if (I 11 = 0 ∨ A 18 (I 11 - 1).toNatClampNeg < x2) then 1 else 0) := by
    by_cases c : I 11 = 0
    · rw [if_pos c, if_pos (Or.inl c)]
    · have c3 : (I 11).toInt ≠ 0 := fun hh => c (Int32.toInt_inj.1 hh)
      have e1 : (I 11 - 1).toInt = (I 11).toInt - 1 := by
        rw [pu_sub (by omega) (by omega), z1]
      have t1 : (I 11 - 1).toNatClampNeg = (I 11 - 1).toInt.toNat := rfl
      have t2 : (5 + I 11 - 1).toNatClampNeg = (5 + I 11 - 1).toInt.toNat := rfl
      have ix : gx_ix (5 + I 11 - 1) 20 = true := pu_ix (by omega) (by omega)
      have ev : a 9 (5 + I 11 - 1).toNatClampNeg = A 18 (I 11 - 1).toNatClampNeg := by
        rw [show (5 + I 11 - 1).toNatClampNeg = 5 * 1 + (I 11 - 1).toNatClampNeg by omega]
        exact (p4 _ (by omega)).1
      rw [if_neg c, if_pos ix, ev]
      by_cases g9 : x2 ≤ A 18 (I 11 - 1).toNatClampNeg
      · rw [if_pos g9, if_neg (fun hh => hh.elim c (fun h9 => absurd h9 (Int32.not_lt.2 g9)))]
        rfl
      · rw [if_neg g9, if_pos (Or.inr (Int32.not_le.1 g9))]
        rfl
  by_cases c1 : I 11 < 5
  · skip
    by_cases c2 : (-60000 : Int32) ≤ x2 ∧ x2 ≤ 60000
    · skip
      by_cases c3 : I 11 = 0 ∨ A 18 (I 11 - 1).toNatClampNeg < x2
      · skip
        by_cases c4 : (0 : Int32) ≤ x3 ∧ x3 ≤ 1000
        · skip
          have d1 : (I 11).toInt < 5 := Int32.lt_iff_toInt_lt.1 c1
          have d2 : (I 11).toNatClampNeg < 5 := by omega
          have ix5 : gx_ix (I 11) 5 = true := pu_ix p2 (by omega)
          have ix20 : gx_ix (5 + I 11) 20 = true := pu_ix (by omega) (by omega)
          have en : I 11 + 1 - 1 = I 11 := by
            apply Int32.toInt_inj.1
            have s1 : (I 11 + 1).toInt = (I 11).toInt + 1 := by
              rw [pu_add (by omega) (by omega), z1]
            rw [pu_sub (by omega) (by omega), s1, z1]
            omega
          refine Or.inl ⟨A 16, A 17, I 10, upd (A 18) (I 11).toNatClampNeg x2, upd (A 19) (I 11).toNatClampNeg x3, I 11 + 1, A 20, A 21, I 12, A 22, A 23, I 13, vp_updL o (0 : Int32).toNatClampNeg (I 11).toInt64, I 11, 0, upd (a 9) (5 * 1 + (I 11).toNatClampNeg) x2, upd (a 10) (5 * 1 + (I 11).toNatClampNeg) x3, upd (a 8) 1 (I 11 + 1), ?_, ?_, rfl, (lg_cmp_eq _ _).2 pk_uLs, ⟨h1, h2, h3, h4, h5, h6, (pu_rkO (r := 1) (by decide) h7 d2 (I 11 + 1) x2 x3), (pu_rkN h8 d1 c3 x3), (pu_rkO (r := 1) (by decide) h9 d2 (I 11 + 1) x2 x3), (pu_rkO (r := 1) (by decide) h10 d2 (I 11 + 1) x2 x3), h11, h12, h13, h14, h15, h16, h17⟩⟩
          · simp only [fn_Law_risk, fn_Room_risk, fn_Steps_append, pu_rix, pu_rsp, pu_rin, pu_rise p2 p3, if_pos w0, if_neg (by decide : ¬ (1 : Int32) = 0), if_pos (by decide : (1 : Int32) = 1), ↓reduceIte, if_pos ix5, if_pos c1, if_pos c2, if_pos c3, if_pos c4, if_neg (fun hh : ¬ I 11 < 5 => hh c1), en] <;> rfl
          · simp only [fn_Model_risk, pu_mw, pu_le3, pu_ml, pu_b1, if_pos w0, if_pos w9, if_neg pu_n0, if_pos ix4, p1, show (5 : Int32) * 1 = 5 from rfl, mr, pu_nle 5, pu_goes, pu_b2, ↓reduceIte, if_pos ix20, e5.2, if_pos c1, if_pos c2, if_pos c3, if_pos c4, if_neg (fun hh : ¬ I 11 < 5 => hh c1)] <;> rfl
        · skip
          refine Or.inr (Or.inr (Or.inr ⟨0, 3, a 9, a 10, a 8, ?_, ?_, rfl, ⟨h1, h2, h3, h4, h5, h6, h7, h8, h9, h10, h11, h12, h13, h14, h15, h16, h17⟩⟩))
          · simp only [fn_Room_risk, pu_rix, pu_rsp, pu_rin, pu_rise p2 p3, if_pos w0, if_neg (by decide : ¬ (1 : Int32) = 0), if_pos (by decide : (1 : Int32) = 1), ↓reduceIte, if_pos c1, if_pos c2, if_pos c3, if_neg c4, if_neg (fun hh : ¬ I 11 < 5 => hh c1)] <;> rfl
          · simp only [fn_Model_risk, pu_mw, pu_le3, pu_ml, pu_b1, if_pos w0, if_pos w9, if_neg pu_n0, if_pos ix4, p1, show (5 : Int32) * 1 = 5 from rfl, mr, pu_nle 5, pu_goes, pu_b2, ↓reduceIte, if_pos c1, if_pos c2, if_pos c3, if_neg c4, if_neg (fun hh : ¬ I 11 < 5 => hh c1)] <;> rfl
      · skip
        by_cases c4 : (0 : Int32) ≤ x3 ∧ x3 ≤ 1000
        · skip
          refine Or.inr (Or.inr (Or.inr ⟨0, 3, a 9, a 10, a 8, ?_, ?_, rfl, ⟨h1, h2, h3, h4, h5, h6, h7, h8, h9, h10, h11, h12, h13, h14, h15, h16, h17⟩⟩))
          · simp only [fn_Room_risk, pu_rix, pu_rsp, pu_rin, pu_rise p2 p3, if_pos w0, if_neg (by decide : ¬ (1 : Int32) = 0), if_pos (by decide : (1 : Int32) = 1), ↓reduceIte, if_pos c1, if_pos c2, if_neg c3, if_pos c4, if_neg (fun hh : ¬ I 11 < 5 => hh c1)] <;> rfl
          · simp only [fn_Model_risk, pu_mw, pu_le3, pu_ml, pu_b1, if_pos w0, if_pos w9, if_neg pu_n0, if_pos ix4, p1, show (5 : Int32) * 1 = 5 from rfl, mr, pu_nle 5, pu_goes, pu_b2, ↓reduceIte, if_pos c1, if_pos c2, if_neg c3, if_pos c4, if_neg (fun hh : ¬ I 11 < 5 => hh c1)] <;> rfl
        · skip
          refine Or.inr (Or.inr (Or.inr ⟨0, 3, a 9, a 10, a 8, ?_, ?_, rfl, ⟨h1, h2, h3, h4, h5, h6, h7, h8, h9, h10, h11, h12, h13, h14, h15, h16, h17⟩⟩))
          · simp only [fn_Room_risk, pu_rix, pu_rsp, pu_rin, pu_rise p2 p3, if_pos w0, if_neg (by decide : ¬ (1 : Int32) = 0), if_pos (by decide : (1 : Int32) = 1), ↓reduceIte, if_pos c1, if_pos c2, if_neg c3, if_neg c4, if_neg (fun hh : ¬ I 11 < 5 => hh c1)] <;> rfl
          · simp only [fn_Model_risk, pu_mw, pu_le3, pu_ml, pu_b1, if_pos w0, if_pos w9, if_neg pu_n0, if_pos ix4, p1, show (5 : Int32) * 1 = 5 from rfl, mr, pu_nle 5, pu_goes, pu_b2, ↓reduceIte, if_pos c1, if_pos c2, if_neg c3, if_neg c4, if_neg (fun hh : ¬ I 11 < 5 => hh c1)] <;> rfl
    · skip
      by_cases c3 : I 11 = 0 ∨ A 18 (I 11 - 1).toNatClampNeg < x2
      · skip
        by_cases c4 : (0 : Int32) ≤ x3 ∧ x3 ≤ 1000
        · skip
          refine Or.inr (Or.inr (Or.inr ⟨0, 3, a 9, a 10, a 8, ?_, ?_, rfl, ⟨h1, h2, h3, h4, h5, h6, h7, h8, h9, h10, h11, h12, h13, h14, h15, h16, h17⟩⟩))
          · simp only [fn_Room_risk, pu_rix, pu_rsp, pu_rin, pu_rise p2 p3, if_pos w0, if_neg (by decide : ¬ (1 : Int32) = 0), if_pos (by decide : (1 : Int32) = 1), ↓reduceIte, if_pos c1, if_neg c2, if_pos c3, if_pos c4, if_neg (fun hh : ¬ I 11 < 5 => hh c1)] <;> rfl
          · simp only [fn_Model_risk, pu_mw, pu_le3, pu_ml, pu_b1, if_pos w0, if_pos w9, if_neg pu_n0, if_pos ix4, p1, show (5 : Int32) * 1 = 5 from rfl, mr, pu_nle 5, pu_goes, pu_b2, ↓reduceIte, if_pos c1, if_neg c2, if_pos c3, if_pos c4, if_neg (fun hh : ¬ I 11 < 5 => hh c1)] <;> rfl
        · skip
          refine Or.inr (Or.inr (Or.inr ⟨0, 3, a 9, a 10, a 8, ?_, ?_, rfl, ⟨h1, h2, h3, h4, h5, h6, h7, h8, h9, h10, h11, h12, h13, h14, h15, h16, h17⟩⟩))
          · simp only [fn_Room_risk, pu_rix, pu_rsp, pu_rin, pu_rise p2 p3, if_pos w0, if_neg (by decide : ¬ (1 : Int32) = 0), if_pos (by decide : (1 : Int32) = 1), ↓reduceIte, if_pos c1, if_neg c2, if_pos c3, if_neg c4, if_neg (fun hh : ¬ I 11 < 5 => hh c1)] <;> rfl
          · simp only [fn_Model_risk, pu_mw, pu_le3, pu_ml, pu_b1, if_pos w0, if_pos w9, if_neg pu_n0, if_pos ix4, p1, show (5 : Int32) * 1 = 5 from rfl, mr, pu_nle 5, pu_goes, pu_b2, ↓reduceIte, if_pos c1, if_neg c2, if_pos c3, if_neg c4, if_neg (fun hh : ¬ I 11 < 5 => hh c1)] <;> rfl
      · skip
        by_cases c4 : (0 : Int32) ≤ x3 ∧ x3 ≤ 1000
        · skip
          refine Or.inr (Or.inr (Or.inr ⟨0, 3, a 9, a 10, a 8, ?_, ?_, rfl, ⟨h1, h2, h3, h4, h5, h6, h7, h8, h9, h10, h11, h12, h13, h14, h15, h16, h17⟩⟩))
          · simp only [fn_Room_risk, pu_rix, pu_rsp, pu_rin, pu_rise p2 p3, if_pos w0, if_neg (by decide : ¬ (1 : Int32) = 0), if_pos (by decide : (1 : Int32) = 1), ↓reduceIte, if_pos c1, if_neg c2, if_neg c3, if_pos c4, if_neg (fun hh : ¬ I 11 < 5 => hh c1)] <;> rfl
          · simp only [fn_Model_risk, pu_mw, pu_le3, pu_ml, pu_b1, if_pos w0, if_pos w9, if_neg pu_n0, if_pos ix4, p1, show (5 : Int32) * 1 = 5 from rfl, mr, pu_nle 5, pu_goes, pu_b2, ↓reduceIte, if_pos c1, if_neg c2, if_neg c3, if_pos c4, if_neg (fun hh : ¬ I 11 < 5 => hh c1)] <;> rfl
        · skip
          refine Or.inr (Or.inr (Or.inr ⟨0, 3, a 9, a 10, a 8, ?_, ?_, rfl, ⟨h1, h2, h3, h4, h5, h6, h7, h8, h9, h10, h11, h12, h13, h14, h15, h16, h17⟩⟩))
          · simp only [fn_Room_risk, pu_rix, pu_rsp, pu_rin, pu_rise p2 p3, if_pos w0, if_neg (by decide : ¬ (1 : Int32) = 0), if_pos (by decide : (1 : Int32) = 1), ↓reduceIte, if_pos c1, if_neg c2, if_neg c3, if_neg c4, if_neg (fun hh : ¬ I 11 < 5 => hh c1)] <;> rfl
          · simp only [fn_Model_risk, pu_mw, pu_le3, pu_ml, pu_b1, if_pos w0, if_pos w9, if_neg pu_n0, if_pos ix4, p1, show (5 : Int32) * 1 = 5 from rfl, mr, pu_nle 5, pu_goes, pu_b2, ↓reduceIte, if_pos c1, if_neg c2, if_neg c3, if_neg c4, if_neg (fun hh : ¬ I 11 < 5 => hh c1)] <;> rfl
  · skip
    by_cases c2 : (-60000 : Int32) ≤ x2 ∧ x2 ≤ 60000
    · skip
      by_cases c3 : I 11 = 0 ∨ A 18 (I 11 - 1).toNatClampNeg < x2
      · skip
        by_cases c4 : (0 : Int32) ≤ x3 ∧ x3 ≤ 1000
        · skip
          refine Or.inr (Or.inr (Or.inl ⟨0, 2, a 9, a 10, a 8, ?_, ?_, rfl, ⟨h1, h2, h3, h4, h5, h6, h7, h8, h9, h10, h11, h12, h13, h14, h15, h16, h17⟩⟩))
          · simp only [fn_Room_risk, pu_rix, pu_rsp, pu_rin, pu_rise p2 p3, if_pos w0, if_neg (by decide : ¬ (1 : Int32) = 0), if_pos (by decide : (1 : Int32) = 1), ↓reduceIte, if_neg c1, if_pos c2, if_pos c3, if_pos c4, if_pos (c1 : ¬ I 11 < 5)] <;> rfl
          · simp only [fn_Model_risk, pu_mw, pu_le3, pu_ml, pu_b1, if_pos w0, if_pos w9, if_neg pu_n0, if_pos ix4, p1, show (5 : Int32) * 1 = 5 from rfl, mr, pu_nle 5, pu_goes, pu_b2, ↓reduceIte, if_neg c1, if_pos c2, if_pos c3, if_pos c4, if_pos (c1 : ¬ I 11 < 5)] <;> rfl
        · skip
          refine Or.inr (Or.inr (Or.inl ⟨0, 2, a 9, a 10, a 8, ?_, ?_, rfl, ⟨h1, h2, h3, h4, h5, h6, h7, h8, h9, h10, h11, h12, h13, h14, h15, h16, h17⟩⟩))
          · simp only [fn_Room_risk, pu_rix, pu_rsp, pu_rin, pu_rise p2 p3, if_pos w0, if_neg (by decide : ¬ (1 : Int32) = 0), if_pos (by decide : (1 : Int32) = 1), ↓reduceIte, if_neg c1, if_pos c2, if_pos c3, if_neg c4, if_pos (c1 : ¬ I 11 < 5)] <;> rfl
          · simp only [fn_Model_risk, pu_mw, pu_le3, pu_ml, pu_b1, if_pos w0, if_pos w9, if_neg pu_n0, if_pos ix4, p1, show (5 : Int32) * 1 = 5 from rfl, mr, pu_nle 5, pu_goes, pu_b2, ↓reduceIte, if_neg c1, if_pos c2, if_pos c3, if_neg c4, if_pos (c1 : ¬ I 11 < 5)] <;> rfl
      · skip
        by_cases c4 : (0 : Int32) ≤ x3 ∧ x3 ≤ 1000
        · skip
          refine Or.inr (Or.inr (Or.inl ⟨0, 2, a 9, a 10, a 8, ?_, ?_, rfl, ⟨h1, h2, h3, h4, h5, h6, h7, h8, h9, h10, h11, h12, h13, h14, h15, h16, h17⟩⟩))
          · simp only [fn_Room_risk, pu_rix, pu_rsp, pu_rin, pu_rise p2 p3, if_pos w0, if_neg (by decide : ¬ (1 : Int32) = 0), if_pos (by decide : (1 : Int32) = 1), ↓reduceIte, if_neg c1, if_pos c2, if_neg c3, if_pos c4, if_pos (c1 : ¬ I 11 < 5)] <;> rfl
          · simp only [fn_Model_risk, pu_mw, pu_le3, pu_ml, pu_b1, if_pos w0, if_pos w9, if_neg pu_n0, if_pos ix4, p1, show (5 : Int32) * 1 = 5 from rfl, mr, pu_nle 5, pu_goes, pu_b2, ↓reduceIte, if_neg c1, if_pos c2, if_neg c3, if_pos c4, if_pos (c1 : ¬ I 11 < 5)] <;> rfl
        · skip
          refine Or.inr (Or.inr (Or.inl ⟨0, 2, a 9, a 10, a 8, ?_, ?_, rfl, ⟨h1, h2, h3, h4, h5, h6, h7, h8, h9, h10, h11, h12, h13, h14, h15, h16, h17⟩⟩))
          · simp only [fn_Room_risk, pu_rix, pu_rsp, pu_rin, pu_rise p2 p3, if_pos w0, if_neg (by decide : ¬ (1 : Int32) = 0), if_pos (by decide : (1 : Int32) = 1), ↓reduceIte, if_neg c1, if_pos c2, if_neg c3, if_neg c4, if_pos (c1 : ¬ I 11 < 5)] <;> rfl
          · simp only [fn_Model_risk, pu_mw, pu_le3, pu_ml, pu_b1, if_pos w0, if_pos w9, if_neg pu_n0, if_pos ix4, p1, show (5 : Int32) * 1 = 5 from rfl, mr, pu_nle 5, pu_goes, pu_b2, ↓reduceIte, if_neg c1, if_pos c2, if_neg c3, if_neg c4, if_pos (c1 : ¬ I 11 < 5)] <;> rfl
    · skip
      by_cases c3 : I 11 = 0 ∨ A 18 (I 11 - 1).toNatClampNeg < x2
      · skip
        by_cases c4 : (0 : Int32) ≤ x3 ∧ x3 ≤ 1000
        · skip
          refine Or.inr (Or.inr (Or.inl ⟨0, 2, a 9, a 10, a 8, ?_, ?_, rfl, ⟨h1, h2, h3, h4, h5, h6, h7, h8, h9, h10, h11, h12, h13, h14, h15, h16, h17⟩⟩))
          · simp only [fn_Room_risk, pu_rix, pu_rsp, pu_rin, pu_rise p2 p3, if_pos w0, if_neg (by decide : ¬ (1 : Int32) = 0), if_pos (by decide : (1 : Int32) = 1), ↓reduceIte, if_neg c1, if_neg c2, if_pos c3, if_pos c4, if_pos (c1 : ¬ I 11 < 5)] <;> rfl
          · simp only [fn_Model_risk, pu_mw, pu_le3, pu_ml, pu_b1, if_pos w0, if_pos w9, if_neg pu_n0, if_pos ix4, p1, show (5 : Int32) * 1 = 5 from rfl, mr, pu_nle 5, pu_goes, pu_b2, ↓reduceIte, if_neg c1, if_neg c2, if_pos c3, if_pos c4, if_pos (c1 : ¬ I 11 < 5)] <;> rfl
        · skip
          refine Or.inr (Or.inr (Or.inl ⟨0, 2, a 9, a 10, a 8, ?_, ?_, rfl, ⟨h1, h2, h3, h4, h5, h6, h7, h8, h9, h10, h11, h12, h13, h14, h15, h16, h17⟩⟩))
          · simp only [fn_Room_risk, pu_rix, pu_rsp, pu_rin, pu_rise p2 p3, if_pos w0, if_neg (by decide : ¬ (1 : Int32) = 0), if_pos (by decide : (1 : Int32) = 1), ↓reduceIte, if_neg c1, if_neg c2, if_pos c3, if_neg c4, if_pos (c1 : ¬ I 11 < 5)] <;> rfl
          · simp only [fn_Model_risk, pu_mw, pu_le3, pu_ml, pu_b1, if_pos w0, if_pos w9, if_neg pu_n0, if_pos ix4, p1, show (5 : Int32) * 1 = 5 from rfl, mr, pu_nle 5, pu_goes, pu_b2, ↓reduceIte, if_neg c1, if_neg c2, if_pos c3, if_neg c4, if_pos (c1 : ¬ I 11 < 5)] <;> rfl
      · skip
        by_cases c4 : (0 : Int32) ≤ x3 ∧ x3 ≤ 1000
        · skip
          refine Or.inr (Or.inr (Or.inl ⟨0, 2, a 9, a 10, a 8, ?_, ?_, rfl, ⟨h1, h2, h3, h4, h5, h6, h7, h8, h9, h10, h11, h12, h13, h14, h15, h16, h17⟩⟩))
          · simp only [fn_Room_risk, pu_rix, pu_rsp, pu_rin, pu_rise p2 p3, if_pos w0, if_neg (by decide : ¬ (1 : Int32) = 0), if_pos (by decide : (1 : Int32) = 1), ↓reduceIte, if_neg c1, if_neg c2, if_neg c3, if_pos c4, if_pos (c1 : ¬ I 11 < 5)] <;> rfl
          · simp only [fn_Model_risk, pu_mw, pu_le3, pu_ml, pu_b1, if_pos w0, if_pos w9, if_neg pu_n0, if_pos ix4, p1, show (5 : Int32) * 1 = 5 from rfl, mr, pu_nle 5, pu_goes, pu_b2, ↓reduceIte, if_neg c1, if_neg c2, if_neg c3, if_pos c4, if_pos (c1 : ¬ I 11 < 5)] <;> rfl
        · skip
          refine Or.inr (Or.inr (Or.inl ⟨0, 2, a 9, a 10, a 8, ?_, ?_, rfl, ⟨h1, h2, h3, h4, h5, h6, h7, h8, h9, h10, h11, h12, h13, h14, h15, h16, h17⟩⟩))
          · simp only [fn_Room_risk, pu_rix, pu_rsp, pu_rin, pu_rise p2 p3, if_pos w0, if_neg (by decide : ¬ (1 : Int32) = 0), if_pos (by decide : (1 : Int32) = 1), ↓reduceIte, if_neg c1, if_neg c2, if_neg c3, if_neg c4, if_pos (c1 : ¬ I 11 < 5)] <;> rfl
          · simp only [fn_Model_risk, pu_mw, pu_le3, pu_ml, pu_b1, if_pos w0, if_pos w9, if_neg pu_n0, if_pos ix4, p1, show (5 : Int32) * 1 = 5 from rfl, mr, pu_nle 5, pu_goes, pu_b2, ↓reduceIte, if_neg c1, if_neg c2, if_neg c3, if_neg c4, if_pos (c1 : ¬ I 11 < 5)] <;> rfl
theorem pr_risk2 {I : Nat → Int32} {J : Nat → Int64} {A : Nat → Nat → Int32} {L : Nat → Nat → Int64} {i : Nat → Int32} {a : Nat → Nat → Int32} {l9 : Nat → Nat → Int64} (h : pu_Rel I J A L i a l9) (o : Nat → Int64) (x2 x3 : Int32) : st_risk pu_Rel I J A L i a l9 o 2 x2 x3 := by
  obtain ⟨h1, h2, h3, h4, h5, h6, h7, h8, h9, h10, h11, h12, h13, h14, h15, h16, h17⟩ := h
  unfold st_risk
  obtain ⟨p1, p2, p3, p4, p5⟩ := h9
  have h9 : pu_Rrk 2 (I 12) (A 20) (A 21) (a 8) (a 9) (a 10) := ⟨p1, p2, p3, p4, p5⟩
  have p1 : a 8 (2 : Int32).toNatClampNeg = I 12 := p1
  have w0 : (0 : Int32) ≤ (2 : Int32) ∧ (2 : Int32) < 4 := by decide
  have w9 : (0 : Int32) < 4 ∧ (2 : Int32) < 4 := by decide
  have ix4 : gx_ix (2 : Int32) 4 = true := by decide
  have z1 : (1 : Int32).toInt = 1 := rfl
  have kt : (I 12).toNatClampNeg = (I 12).toInt.toNat := rfl
  have e5 := pu_a3 (k := I 12) (n := 10) 10 rfl (by omega) p2 (by omega)
  have em : ((10 + I 12 - 1 : Int32)).toInt = 10 + (I 12).toInt - 1 := by
    rw [pu_sub (by omega) (by omega), e5.1, z1]
    omega
  have mr : (if I 12 = 0 then some (1 : Int32) else if gx_ix (10 + I 12 - 1) 20 = true then gx_b1 (if x2 ≤ a 9 (10 + I 12 - 1).toNatClampNeg then some (0 : Int32) else some 1) (fun j => some j) else none) = some (if (I 12 = 0 ∨ A 20 (I 12 - 1).toNatClampNeg < x2) then 1 else 0) := by
    by_cases c : I 12 = 0
    · rw [if_pos c, if_pos (Or.inl c)]
    · have c3 : (I 12).toInt ≠ 0 := fun hh => c (Int32.toInt_inj.1 hh)
      have e1 : (I 12 - 1).toInt = (I 12).toInt - 1 := by
        rw [pu_sub (by omega) (by omega), z1]
      have t1 : (I 12 - 1).toNatClampNeg = (I 12 - 1).toInt.toNat := rfl
      have t2 : (10 + I 12 - 1).toNatClampNeg = (10 + I 12 - 1).toInt.toNat := rfl
      have ix : gx_ix (10 + I 12 - 1) 20 = true := pu_ix (by omega) (by omega)
      have ev : a 9 (10 + I 12 - 1).toNatClampNeg = A 20 (I 12 - 1).toNatClampNeg := by
        rw [show (10 + I 12 - 1).toNatClampNeg = 5 * 2 + (I 12 - 1).toNatClampNeg by omega]
        exact (p4 _ (by omega)).1
      rw [if_neg c, if_pos ix, ev]
      by_cases g9 : x2 ≤ A 20 (I 12 - 1).toNatClampNeg
      · rw [if_pos g9, if_neg (fun hh => hh.elim c (fun h9 => absurd h9 (Int32.not_lt.2 g9)))]
        rfl
      · rw [if_neg g9, if_pos (Or.inr (Int32.not_le.1 g9))]
        rfl
  by_cases c1 : I 12 < 5
  · skip
    by_cases c2 : (-60000 : Int32) ≤ x2 ∧ x2 ≤ 60000
    · skip
      by_cases c3 : I 12 = 0 ∨ A 20 (I 12 - 1).toNatClampNeg < x2
      · skip
        by_cases c4 : (0 : Int32) ≤ x3 ∧ x3 ≤ 1000
        · skip
          have d1 : (I 12).toInt < 5 := Int32.lt_iff_toInt_lt.1 c1
          have d2 : (I 12).toNatClampNeg < 5 := by omega
          have ix5 : gx_ix (I 12) 5 = true := pu_ix p2 (by omega)
          have ix20 : gx_ix (10 + I 12) 20 = true := pu_ix (by omega) (by omega)
          have en : I 12 + 1 - 1 = I 12 := by
            apply Int32.toInt_inj.1
            have s1 : (I 12 + 1).toInt = (I 12).toInt + 1 := by
              rw [pu_add (by omega) (by omega), z1]
            rw [pu_sub (by omega) (by omega), s1, z1]
            omega
          refine Or.inl ⟨A 16, A 17, I 10, A 18, A 19, I 11, upd (A 20) (I 12).toNatClampNeg x2, upd (A 21) (I 12).toNatClampNeg x3, I 12 + 1, A 22, A 23, I 13, vp_updL o (0 : Int32).toNatClampNeg (I 12).toInt64, I 12, 0, upd (a 9) (5 * 2 + (I 12).toNatClampNeg) x2, upd (a 10) (5 * 2 + (I 12).toNatClampNeg) x3, upd (a 8) 2 (I 12 + 1), ?_, ?_, rfl, (lg_cmp_eq _ _).2 pk_uLs, ⟨h1, h2, h3, h4, h5, h6, (pu_rkO (r := 2) (by decide) h7 d2 (I 12 + 1) x2 x3), (pu_rkO (r := 2) (by decide) h8 d2 (I 12 + 1) x2 x3), (pu_rkN h9 d1 c3 x3), (pu_rkO (r := 2) (by decide) h10 d2 (I 12 + 1) x2 x3), h11, h12, h13, h14, h15, h16, h17⟩⟩
          · simp only [fn_Law_risk, fn_Room_risk, fn_Steps_append, pu_rix, pu_rsp, pu_rin, pu_rise p2 p3, if_pos w0, if_neg (by decide : ¬ (2 : Int32) = 0), if_neg (by decide : ¬ (2 : Int32) = 1), if_pos (by decide : (2 : Int32) = 2), ↓reduceIte, if_pos ix5, if_pos c1, if_pos c2, if_pos c3, if_pos c4, if_neg (fun hh : ¬ I 12 < 5 => hh c1), en] <;> rfl
          · simp only [fn_Model_risk, pu_mw, pu_le3, pu_ml, pu_b1, if_pos w0, if_pos w9, if_neg pu_n0, if_pos ix4, p1, show (5 : Int32) * 2 = 10 from rfl, mr, pu_nle 5, pu_goes, pu_b2, ↓reduceIte, if_pos ix20, e5.2, if_pos c1, if_pos c2, if_pos c3, if_pos c4, if_neg (fun hh : ¬ I 12 < 5 => hh c1)] <;> rfl
        · skip
          refine Or.inr (Or.inr (Or.inr ⟨0, 3, a 9, a 10, a 8, ?_, ?_, rfl, ⟨h1, h2, h3, h4, h5, h6, h7, h8, h9, h10, h11, h12, h13, h14, h15, h16, h17⟩⟩))
          · simp only [fn_Room_risk, pu_rix, pu_rsp, pu_rin, pu_rise p2 p3, if_pos w0, if_neg (by decide : ¬ (2 : Int32) = 0), if_neg (by decide : ¬ (2 : Int32) = 1), if_pos (by decide : (2 : Int32) = 2), ↓reduceIte, if_pos c1, if_pos c2, if_pos c3, if_neg c4, if_neg (fun hh : ¬ I 12 < 5 => hh c1)] <;> rfl
          · simp only [fn_Model_risk, pu_mw, pu_le3, pu_ml, pu_b1, if_pos w0, if_pos w9, if_neg pu_n0, if_pos ix4, p1, show (5 : Int32) * 2 = 10 from rfl, mr, pu_nle 5, pu_goes, pu_b2, ↓reduceIte, if_pos c1, if_pos c2, if_pos c3, if_neg c4, if_neg (fun hh : ¬ I 12 < 5 => hh c1)] <;> rfl
      · skip
        by_cases c4 : (0 : Int32) ≤ x3 ∧ x3 ≤ 1000
        · skip
          refine Or.inr (Or.inr (Or.inr ⟨0, 3, a 9, a 10, a 8, ?_, ?_, rfl, ⟨h1, h2, h3, h4, h5, h6, h7, h8, h9, h10, h11, h12, h13, h14, h15, h16, h17⟩⟩))
          · simp only [fn_Room_risk, pu_rix, pu_rsp, pu_rin, pu_rise p2 p3, if_pos w0, if_neg (by decide : ¬ (2 : Int32) = 0), if_neg (by decide : ¬ (2 : Int32) = 1), if_pos (by decide : (2 : Int32) = 2), ↓reduceIte, if_pos c1, if_pos c2, if_neg c3, if_pos c4, if_neg (fun hh : ¬ I 12 < 5 => hh c1)] <;> rfl
          · simp only [fn_Model_risk, pu_mw, pu_le3, pu_ml, pu_b1, if_pos w0, if_pos w9, if_neg pu_n0, if_pos ix4, p1, show (5 : Int32) * 2 = 10 from rfl, mr, pu_nle 5, pu_goes, pu_b2, ↓reduceIte, if_pos c1, if_pos c2, if_neg c3, if_pos c4, if_neg (fun hh : ¬ I 12 < 5 => hh c1)] <;> rfl
        · skip
          refine Or.inr (Or.inr (Or.inr ⟨0, 3, a 9, a 10, a 8, ?_, ?_, rfl, ⟨h1, h2, h3, h4, h5, h6, h7, h8, h9, h10, h11, h12, h13, h14, h15, h16, h17⟩⟩))
          · simp only [fn_Room_risk, pu_rix, pu_rsp, pu_rin, pu_rise p2 p3, if_pos w0, if_neg (by decide : ¬ (2 : Int32) = 0), if_neg (by decide : ¬ (2 : Int32) = 1), if_pos (by decide : (2 : Int32) = 2), ↓reduceIte, if_pos c1, if_pos c2, if_neg c3, if_neg c4, if_neg (fun hh : ¬ I 12 < 5 => hh c1)] <;> rfl
          · simp only [fn_Model_risk, pu_mw, pu_le3, pu_ml, pu_b1, if_pos w0, if_pos w9, if_neg pu_n0, if_pos ix4, p1, show (5 : Int32) * 2 = 10 from rfl, mr, pu_nle 5, pu_goes, pu_b2, ↓reduceIte, if_pos c1, if_pos c2, if_neg c3, if_neg c4, if_neg (fun hh : ¬ I 12 < 5 => hh c1)] <;> rfl
    · skip
      by_cases c3 : I 12 = 0 ∨ A 20 (I 12 - 1).toNatClampNeg < x2
      · skip
        by_cases c4 : (0 : Int32) ≤ x3 ∧ x3 ≤ 1000
        · skip
          refine Or.inr (Or.inr (Or.inr ⟨0, 3, a 9, a 10, a 8, ?_, ?_, rfl, ⟨h1, h2, h3, h4, h5, h6, h7, h8, h9, h10, h11, h12, h13, h14, h15, h16, h17⟩⟩))
          · simp only [fn_Room_risk, pu_rix, pu_rsp, pu_rin, pu_rise p2 p3, if_pos w0, if_neg (by decide : ¬ (2 : Int32) = 0), if_neg (by decide : ¬ (2 : Int32) = 1), if_pos (by decide : (2 : Int32) = 2), ↓reduceIte, if_pos c1, if_neg c2, if_pos c3, if_pos c4, if_neg (fun hh : ¬ I 12 < 5 => hh c1)] <;> rfl
          · simp only [fn_Model_risk, pu_mw, pu_le3, pu_ml, pu_b1, if_pos w0, if_pos w9, if_neg pu_n0, if_pos ix4, p1, show (5 : Int32) * 2 = 10 from rfl, mr, pu_nle 5, pu_goes, pu_b2, ↓reduceIte, if_pos c1, if_neg c2, if_pos c3, if_pos c4, if_neg (fun hh : ¬ I 12 < 5 => hh c1)] <;> rfl
        · skip
          refine Or.inr (Or.inr (Or.inr ⟨0, 3, a 9, a 10, a 8, ?_, ?_, rfl, ⟨h1, h2, h3, h4, h5, h6, h7, h8, h9, h10, h11, h12, h13, h14, h15, h16, h17⟩⟩))
          · simp only [fn_Room_risk, pu_rix, pu_rsp, pu_rin, pu_rise p2 p3, if_pos w0, if_neg (by decide : ¬ (2 : Int32) = 0), if_neg (by decide : ¬ (2 : Int32) = 1), if_pos (by decide : (2 : Int32) = 2), ↓reduceIte, if_pos c1, if_neg c2, if_pos c3, if_neg c4, if_neg (fun hh : ¬ I 12 < 5 => hh c1)] <;> rfl
          · simp only [fn_Model_risk, pu_mw, pu_le3, pu_ml, pu_b1, if_pos w0, if_pos w9, if_neg pu_n0, if_pos ix4, p1, show (5 : Int32) * 2 = 10 from rfl, mr, pu_nle 5, pu_goes, pu_b2, ↓reduceIte, if_pos c1, if_neg c2, if_pos c3, if_neg c4, if_neg (fun hh : ¬ I 12 < 5 => hh c1)] <;> rfl
      · skip
        by_cases c4 : (0 : Int32) ≤ x3 ∧ x3 ≤ 1000
        · skip
          refine Or.inr (Or.inr (Or.inr ⟨0, 3, a 9, a 10, a 8, ?_, ?_, rfl, ⟨h1, h2, h3, h4, h5, h6, h7, h8, h9, h10, h11, h12, h13, h14, h15, h16, h17⟩⟩))
          · simp only [fn_Room_risk, pu_rix, pu_rsp, pu_rin, pu_rise p2 p3, if_pos w0, if_neg (by decide : ¬ (2 : Int32) = 0), if_neg (by decide : ¬ (2 : Int32) = 1), if_pos (by decide : (2 : Int32) = 2), ↓reduceIte, if_pos c1, if_neg c2, if_neg c3, if_pos c4, if_neg (fun hh : ¬ I 12 < 5 => hh c1)] <;> rfl
          · simp only [fn_Model_risk, pu_mw, pu_le3, pu_ml, pu_b1, if_pos w0, if_pos w9, if_neg pu_n0, if_pos ix4, p1, show (5 : Int32) * 2 = 10 from rfl, mr, pu_nle 5, pu_goes, pu_b2, ↓reduceIte, if_pos c1, if_neg c2, if_neg c3, if_pos c4, if_neg (fun hh : ¬ I 12 < 5 => hh c1)] <;> rfl
        · skip
          refine Or.inr (Or.inr (Or.inr ⟨0, 3, a 9, a 10, a 8, ?_, ?_, rfl, ⟨h1, h2, h3, h4, h5, h6, h7, h8, h9, h10, h11, h12, h13, h14, h15, h16, h17⟩⟩))
          · simp only [fn_Room_risk, pu_rix, pu_rsp, pu_rin, pu_rise p2 p3, if_pos w0, if_neg (by decide : ¬ (2 : Int32) = 0), if_neg (by decide : ¬ (2 : Int32) = 1), if_pos (by decide : (2 : Int32) = 2), ↓reduceIte, if_pos c1, if_neg c2, if_neg c3, if_neg c4, if_neg (fun hh : ¬ I 12 < 5 => hh c1)] <;> rfl
          · simp only [fn_Model_risk, pu_mw, pu_le3, pu_ml, pu_b1, if_pos w0, if_pos w9, if_neg pu_n0, if_pos ix4, p1, show (5 : Int32) * 2 = 10 from rfl, mr, pu_nle 5, pu_goes, pu_b2, ↓reduceIte, if_pos c1, if_neg c2, if_neg c3, if_neg c4, if_neg (fun hh : ¬ I 12 < 5 => hh c1)] <;> rfl
  · skip
    by_cases c2 : (-60000 : Int32) ≤ x2 ∧ x2 ≤ 60000
    · skip
      by_cases c3 : I 12 = 0 ∨ A 20 (I 12 - 1).toNatClampNeg < x2
      · skip
        by_cases c4 : (0 : Int32) ≤ x3 ∧ x3 ≤ 1000
        · skip
          refine Or.inr (Or.inr (Or.inl ⟨0, 2, a 9, a 10, a 8, ?_, ?_, rfl, ⟨h1, h2, h3, h4, h5, h6, h7, h8, h9, h10, h11, h12, h13, h14, h15, h16, h17⟩⟩))
          · simp only [fn_Room_risk, pu_rix, pu_rsp, pu_rin, pu_rise p2 p3, if_pos w0, if_neg (by decide : ¬ (2 : Int32) = 0), if_neg (by decide : ¬ (2 : Int32) = 1), if_pos (by decide : (2 : Int32) = 2), ↓reduceIte, if_neg c1, if_pos c2, if_pos c3, if_pos c4, if_pos (c1 : ¬ I 12 < 5)] <;> rfl
          · simp only [fn_Model_risk, pu_mw, pu_le3, pu_ml, pu_b1, if_pos w0, if_pos w9, if_neg pu_n0, if_pos ix4, p1, show (5 : Int32) * 2 = 10 from rfl, mr, pu_nle 5, pu_goes, pu_b2, ↓reduceIte, if_neg c1, if_pos c2, if_pos c3, if_pos c4, if_pos (c1 : ¬ I 12 < 5)] <;> rfl
        · skip
          refine Or.inr (Or.inr (Or.inl ⟨0, 2, a 9, a 10, a 8, ?_, ?_, rfl, ⟨h1, h2, h3, h4, h5, h6, h7, h8, h9, h10, h11, h12, h13, h14, h15, h16, h17⟩⟩))
          · simp only [fn_Room_risk, pu_rix, pu_rsp, pu_rin, pu_rise p2 p3, if_pos w0, if_neg (by decide : ¬ (2 : Int32) = 0), if_neg (by decide : ¬ (2 : Int32) = 1), if_pos (by decide : (2 : Int32) = 2), ↓reduceIte, if_neg c1, if_pos c2, if_pos c3, if_neg c4, if_pos (c1 : ¬ I 12 < 5)] <;> rfl
          · simp only [fn_Model_risk, pu_mw, pu_le3, pu_ml, pu_b1, if_pos w0, if_pos w9, if_neg pu_n0, if_pos ix4, p1, show (5 : Int32) * 2 = 10 from rfl, mr, pu_nle 5, pu_goes, pu_b2, ↓reduceIte, if_neg c1, if_pos c2, if_pos c3, if_neg c4, if_pos (c1 : ¬ I 12 < 5)] <;> rfl
      · skip
        by_cases c4 : (0 : Int32) ≤ x3 ∧ x3 ≤ 1000
        · skip
          refine Or.inr (Or.inr (Or.inl ⟨0, 2, a 9, a 10, a 8, ?_, ?_, rfl, ⟨h1, h2, h3, h4, h5, h6, h7, h8, h9, h10, h11, h12, h13, h14, h15, h16, h17⟩⟩))
          · simp only [fn_Room_risk, pu_rix, pu_rsp, pu_rin, pu_rise p2 p3, if_pos w0, if_neg (by decide : ¬ (2 : Int32) = 0), if_neg (by decide : ¬ (2 : Int32) = 1), if_pos (by decide : (2 : Int32) = 2), ↓reduceIte, if_neg c1, if_pos c2, if_neg c3, if_pos c4, if_pos (c1 : ¬ I 12 < 5)] <;> rfl
          · simp only [fn_Model_risk, pu_mw, pu_le3, pu_ml, pu_b1, if_pos w0, if_pos w9, if_neg pu_n0, if_pos ix4, p1, show (5 : Int32) * 2 = 10 from rfl, mr, pu_nle 5, pu_goes, pu_b2, ↓reduceIte, if_neg c1, if_pos c2, if_neg c3, if_pos c4, if_pos (c1 : ¬ I 12 < 5)] <;> rfl
        · skip
          refine Or.inr (Or.inr (Or.inl ⟨0, 2, a 9, a 10, a 8, ?_, ?_, rfl, ⟨h1, h2, h3, h4, h5, h6, h7, h8, h9, h10, h11, h12, h13, h14, h15, h16, h17⟩⟩))
          · simp only [fn_Room_risk, pu_rix, pu_rsp, pu_rin, pu_rise p2 p3, if_pos w0, if_neg (by decide : ¬ (2 : Int32) = 0), if_neg (by decide : ¬ (2 : Int32) = 1), if_pos (by decide : (2 : Int32) = 2), ↓reduceIte, if_neg c1, if_pos c2, if_neg c3, if_neg c4, if_pos (c1 : ¬ I 12 < 5)] <;> rfl
          · simp only [fn_Model_risk, pu_mw, pu_le3, pu_ml, pu_b1, if_pos w0, if_pos w9, if_neg pu_n0, if_pos ix4, p1, show (5 : Int32) * 2 = 10 from rfl, mr, pu_nle 5, pu_goes, pu_b2, ↓reduceIte, if_neg c1, if_pos c2, if_neg c3, if_neg c4, if_pos (c1 : ¬ I 12 < 5)] <;> rfl
    · skip
      by_cases c3 : I 12 = 0 ∨ A 20 (I 12 - 1).toNatClampNeg < x2
      · skip
        by_cases c4 : (0 : Int32) ≤ x3 ∧ x3 ≤ 1000
        · skip
          refine Or.inr (Or.inr (Or.inl ⟨0, 2, a 9, a 10, a 8, ?_, ?_, rfl, ⟨h1, h2, h3, h4, h5, h6, h7, h8, h9, h10, h11, h12, h13, h14, h15, h16, h17⟩⟩))
          · simp only [fn_Room_risk, pu_rix, pu_rsp, pu_rin, pu_rise p2 p3, if_pos w0, if_neg (by decide : ¬ (2 : Int32) = 0), if_neg (by decide : ¬ (2 : Int32) = 1), if_pos (by decide : (2 : Int32) = 2), ↓reduceIte, if_neg c1, if_neg c2, if_pos c3, if_pos c4, if_pos (c1 : ¬ I 12 < 5)] <;> rfl
          · simp only [fn_Model_risk, pu_mw, pu_le3, pu_ml, pu_b1, if_pos w0, if_pos w9, if_neg pu_n0, if_pos ix4, p1, show (5 : Int32) * 2 = 10 from rfl, mr, pu_nle 5, pu_goes, pu_b2, ↓reduceIte, if_neg c1, if_neg c2, if_pos c3, if_pos c4, if_pos (c1 : ¬ I 12 < 5)] <;> rfl
        · skip
          refine Or.inr (Or.inr (Or.inl ⟨0, 2, a 9, a 10, a 8, ?_, ?_, rfl, ⟨h1, h2, h3, h4, h5, h6, h7, h8, h9, h10, h11, h12, h13, h14, h15, h16, h17⟩⟩))
          · simp only [fn_Room_risk, pu_rix, pu_rsp, pu_rin, pu_rise p2 p3, if_pos w0, if_neg (by decide : ¬ (2 : Int32) = 0), if_neg (by decide : ¬ (2 : Int32) = 1), if_pos (by decide : (2 : Int32) = 2), ↓reduceIte, if_neg c1, if_neg c2, if_pos c3, if_neg c4, if_pos (c1 : ¬ I 12 < 5)] <;> rfl
          · simp only [fn_Model_risk, pu_mw, pu_le3, pu_ml, pu_b1, if_pos w0, if_pos w9, if_neg pu_n0, if_pos ix4, p1, show (5 : Int32) * 2 = 10 from rfl, mr, pu_nle 5, pu_goes, pu_b2, ↓reduceIte, if_neg c1, if_neg c2, if_pos c3, if_neg c4, if_pos (c1 : ¬ I 12 < 5)] <;> rfl
      · skip
        by_cases c4 : (0 : Int32) ≤ x3 ∧ x3 ≤ 1000
        · skip
          refine Or.inr (Or.inr (Or.inl ⟨0, 2, a 9, a 10, a 8, ?_, ?_, rfl, ⟨h1, h2, h3, h4, h5, h6, h7, h8, h9, h10, h11, h12, h13, h14, h15, h16, h17⟩⟩))
          · simp only [fn_Room_risk, pu_rix, pu_rsp, pu_rin, pu_rise p2 p3, if_pos w0, if_neg (by decide : ¬ (2 : Int32) = 0), if_neg (by decide : ¬ (2 : Int32) = 1), if_pos (by decide : (2 : Int32) = 2), ↓reduceIte, if_neg c1, if_neg c2, if_neg c3, if_pos c4, if_pos (c1 : ¬ I 12 < 5)] <;> rfl
          · simp only [fn_Model_risk, pu_mw, pu_le3, pu_ml, pu_b1, if_pos w0, if_pos w9, if_neg pu_n0, if_pos ix4, p1, show (5 : Int32) * 2 = 10 from rfl, mr, pu_nle 5, pu_goes, pu_b2, ↓reduceIte, if_neg c1, if_neg c2, if_neg c3, if_pos c4, if_pos (c1 : ¬ I 12 < 5)] <;> rfl
        · skip
          refine Or.inr (Or.inr (Or.inl ⟨0, 2, a 9, a 10, a 8, ?_, ?_, rfl, ⟨h1, h2, h3, h4, h5, h6, h7, h8, h9, h10, h11, h12, h13, h14, h15, h16, h17⟩⟩))
          · simp only [fn_Room_risk, pu_rix, pu_rsp, pu_rin, pu_rise p2 p3, if_pos w0, if_neg (by decide : ¬ (2 : Int32) = 0), if_neg (by decide : ¬ (2 : Int32) = 1), if_pos (by decide : (2 : Int32) = 2), ↓reduceIte, if_neg c1, if_neg c2, if_neg c3, if_neg c4, if_pos (c1 : ¬ I 12 < 5)] <;> rfl
          · simp only [fn_Model_risk, pu_mw, pu_le3, pu_ml, pu_b1, if_pos w0, if_pos w9, if_neg pu_n0, if_pos ix4, p1, show (5 : Int32) * 2 = 10 from rfl, mr, pu_nle 5, pu_goes, pu_b2, ↓reduceIte, if_neg c1, if_neg c2, if_neg c3, if_neg c4, if_pos (c1 : ¬ I 12 < 5)] <;> rfl
theorem pr_risk3 {I : Nat → Int32} {J : Nat → Int64} {A : Nat → Nat → Int32} {L : Nat → Nat → Int64} {i : Nat → Int32} {a : Nat → Nat → Int32} {l9 : Nat → Nat → Int64} (h : pu_Rel I J A L i a l9) (o : Nat → Int64) (x2 x3 : Int32) : st_risk pu_Rel I J A L i a l9 o 3 x2 x3 := by
  obtain ⟨h1, h2, h3, h4, h5, h6, h7, h8, h9, h10, h11, h12, h13, h14, h15, h16, h17⟩ := h
  unfold st_risk
  obtain ⟨p1, p2, p3, p4, p5⟩ := h10
  have h10 : pu_Rrk 3 (I 13) (A 22) (A 23) (a 8) (a 9) (a 10) := ⟨p1, p2, p3, p4, p5⟩
  have p1 : a 8 (3 : Int32).toNatClampNeg = I 13 := p1
  have w0 : (0 : Int32) ≤ (3 : Int32) ∧ (3 : Int32) < 4 := by decide
  have w9 : (0 : Int32) < 4 ∧ (3 : Int32) < 4 := by decide
  have ix4 : gx_ix (3 : Int32) 4 = true := by decide
  have z1 : (1 : Int32).toInt = 1 := rfl
  have kt : (I 13).toNatClampNeg = (I 13).toInt.toNat := rfl
  have e5 := pu_a3 (k := I 13) (n := 15) 15 rfl (by omega) p2 (by omega)
  have em : ((15 + I 13 - 1 : Int32)).toInt = 15 + (I 13).toInt - 1 := by
    rw [pu_sub (by omega) (by omega), e5.1, z1]
    omega
  have mr : (if I 13 = 0 then some (1 : Int32) else if gx_ix (15 + I 13 - 1) 20 = true then gx_b1 (if x2 ≤ a 9 (15 + I 13 - 1).toNatClampNeg then some (0 : Int32) else some 1) (fun j => some j) else none) = some (if (I 13 = 0 ∨ A 22 (I 13 - 1).toNatClampNeg < x2) then 1 else 0) := by
    by_cases c : I 13 = 0
    · rw [if_pos c, if_pos (Or.inl c)]
    · have c3 : (I 13).toInt ≠ 0 := fun hh => c (Int32.toInt_inj.1 hh)
      have e1 : (I 13 - 1).toInt = (I 13).toInt - 1 := by
        rw [pu_sub (by omega) (by omega), z1]
      have t1 : (I 13 - 1).toNatClampNeg = (I 13 - 1).toInt.toNat := rfl
      have t2 : (15 + I 13 - 1).toNatClampNeg = (15 + I 13 - 1).toInt.toNat := rfl
      have ix : gx_ix (15 + I 13 - 1) 20 = true := pu_ix (by omega) (by omega)
      have ev : a 9 (15 + I 13 - 1).toNatClampNeg = A 22 (I 13 - 1).toNatClampNeg := by
        rw [show (15 + I 13 - 1).toNatClampNeg = 5 * 3 + (I 13 - 1).toNatClampNeg by omega]
        exact (p4 _ (by omega)).1
      rw [if_neg c, if_pos ix, ev]
      by_cases g9 : x2 ≤ A 22 (I 13 - 1).toNatClampNeg
      · rw [if_pos g9, if_neg (fun hh => hh.elim c (fun h9 => absurd h9 (Int32.not_lt.2 g9)))]
        rfl
      · rw [if_neg g9, if_pos (Or.inr (Int32.not_le.1 g9))]
        rfl
  by_cases c1 : I 13 < 5
  · skip
    by_cases c2 : (-60000 : Int32) ≤ x2 ∧ x2 ≤ 60000
    · skip
      by_cases c3 : I 13 = 0 ∨ A 22 (I 13 - 1).toNatClampNeg < x2
      · skip
        by_cases c4 : (0 : Int32) ≤ x3 ∧ x3 ≤ 1000
        · skip
          have d1 : (I 13).toInt < 5 := Int32.lt_iff_toInt_lt.1 c1
          have d2 : (I 13).toNatClampNeg < 5 := by omega
          have ix5 : gx_ix (I 13) 5 = true := pu_ix p2 (by omega)
          have ix20 : gx_ix (15 + I 13) 20 = true := pu_ix (by omega) (by omega)
          have en : I 13 + 1 - 1 = I 13 := by
            apply Int32.toInt_inj.1
            have s1 : (I 13 + 1).toInt = (I 13).toInt + 1 := by
              rw [pu_add (by omega) (by omega), z1]
            rw [pu_sub (by omega) (by omega), s1, z1]
            omega
          refine Or.inl ⟨A 16, A 17, I 10, A 18, A 19, I 11, A 20, A 21, I 12, upd (A 22) (I 13).toNatClampNeg x2, upd (A 23) (I 13).toNatClampNeg x3, I 13 + 1, vp_updL o (0 : Int32).toNatClampNeg (I 13).toInt64, I 13, 0, upd (a 9) (5 * 3 + (I 13).toNatClampNeg) x2, upd (a 10) (5 * 3 + (I 13).toNatClampNeg) x3, upd (a 8) 3 (I 13 + 1), ?_, ?_, rfl, (lg_cmp_eq _ _).2 pk_uLs, ⟨h1, h2, h3, h4, h5, h6, (pu_rkO (r := 3) (by decide) h7 d2 (I 13 + 1) x2 x3), (pu_rkO (r := 3) (by decide) h8 d2 (I 13 + 1) x2 x3), (pu_rkO (r := 3) (by decide) h9 d2 (I 13 + 1) x2 x3), (pu_rkN h10 d1 c3 x3), h11, h12, h13, h14, h15, h16, h17⟩⟩
          · simp only [fn_Law_risk, fn_Room_risk, fn_Steps_append, pu_rix, pu_rsp, pu_rin, pu_rise p2 p3, if_pos w0, if_neg (by decide : ¬ (3 : Int32) = 0), if_neg (by decide : ¬ (3 : Int32) = 1), if_neg (by decide : ¬ (3 : Int32) = 2), if_pos (by decide : (3 : Int32) = 3), ↓reduceIte, if_pos ix5, if_pos c1, if_pos c2, if_pos c3, if_pos c4, if_neg (fun hh : ¬ I 13 < 5 => hh c1), en] <;> rfl
          · simp only [fn_Model_risk, pu_mw, pu_le3, pu_ml, pu_b1, if_pos w0, if_pos w9, if_neg pu_n0, if_pos ix4, p1, show (5 : Int32) * 3 = 15 from rfl, mr, pu_nle 5, pu_goes, pu_b2, ↓reduceIte, if_pos ix20, e5.2, if_pos c1, if_pos c2, if_pos c3, if_pos c4, if_neg (fun hh : ¬ I 13 < 5 => hh c1)] <;> rfl
        · skip
          refine Or.inr (Or.inr (Or.inr ⟨0, 3, a 9, a 10, a 8, ?_, ?_, rfl, ⟨h1, h2, h3, h4, h5, h6, h7, h8, h9, h10, h11, h12, h13, h14, h15, h16, h17⟩⟩))
          · simp only [fn_Room_risk, pu_rix, pu_rsp, pu_rin, pu_rise p2 p3, if_pos w0, if_neg (by decide : ¬ (3 : Int32) = 0), if_neg (by decide : ¬ (3 : Int32) = 1), if_neg (by decide : ¬ (3 : Int32) = 2), if_pos (by decide : (3 : Int32) = 3), ↓reduceIte, if_pos c1, if_pos c2, if_pos c3, if_neg c4, if_neg (fun hh : ¬ I 13 < 5 => hh c1)] <;> rfl
          · simp only [fn_Model_risk, pu_mw, pu_le3, pu_ml, pu_b1, if_pos w0, if_pos w9, if_neg pu_n0, if_pos ix4, p1, show (5 : Int32) * 3 = 15 from rfl, mr, pu_nle 5, pu_goes, pu_b2, ↓reduceIte, if_pos c1, if_pos c2, if_pos c3, if_neg c4, if_neg (fun hh : ¬ I 13 < 5 => hh c1)] <;> rfl
      · skip
        by_cases c4 : (0 : Int32) ≤ x3 ∧ x3 ≤ 1000
        · skip
          refine Or.inr (Or.inr (Or.inr ⟨0, 3, a 9, a 10, a 8, ?_, ?_, rfl, ⟨h1, h2, h3, h4, h5, h6, h7, h8, h9, h10, h11, h12, h13, h14, h15, h16, h17⟩⟩))
          · simp only [fn_Room_risk, pu_rix, pu_rsp, pu_rin, pu_rise p2 p3, if_pos w0, if_neg (by decide : ¬ (3 : Int32) = 0), if_neg (by decide : ¬ (3 : Int32) = 1), if_neg (by decide : ¬ (3 : Int32) = 2), if_pos (by decide : (3 : Int32) = 3), ↓reduceIte, if_pos c1, if_pos c2, if_neg c3, if_pos c4, if_neg (fun hh : ¬ I 13 < 5 => hh c1)] <;> rfl
          · simp only [fn_Model_risk, pu_mw, pu_le3, pu_ml, pu_b1, if_pos w0, if_pos w9, if_neg pu_n0, if_pos ix4, p1, show (5 : Int32) * 3 = 15 from rfl, mr, pu_nle 5, pu_goes, pu_b2, ↓reduceIte, if_pos c1, if_pos c2, if_neg c3, if_pos c4, if_neg (fun hh : ¬ I 13 < 5 => hh c1)] <;> rfl
        · skip
          refine Or.inr (Or.inr (Or.inr ⟨0, 3, a 9, a 10, a 8, ?_, ?_, rfl, ⟨h1, h2, h3, h4, h5, h6, h7, h8, h9, h10, h11, h12, h13, h14, h15, h16, h17⟩⟩))
          · simp only [fn_Room_risk, pu_rix, pu_rsp, pu_rin, pu_rise p2 p3, if_pos w0, if_neg (by decide : ¬ (3 : Int32) = 0), if_neg (by decide : ¬ (3 : Int32) = 1), if_neg (by decide : ¬ (3 : Int32) = 2), if_pos (by decide : (3 : Int32) = 3), ↓reduceIte, if_pos c1, if_pos c2, if_neg c3, if_neg c4, if_neg (fun hh : ¬ I 13 < 5 => hh c1)] <;> rfl
          · simp only [fn_Model_risk, pu_mw, pu_le3, pu_ml, pu_b1, if_pos w0, if_pos w9, if_neg pu_n0, if_pos ix4, p1, show (5 : Int32) * 3 = 15 from rfl, mr, pu_nle 5, pu_goes, pu_b2, ↓reduceIte, if_pos c1, if_pos c2, if_neg c3, if_neg c4, if_neg (fun hh : ¬ I 13 < 5 => hh c1)] <;> rfl
    · skip
      by_cases c3 : I 13 = 0 ∨ A 22 (I 13 - 1).toNatClampNeg < x2
      · skip
        by_cases c4 : (0 : Int32) ≤ x3 ∧ x3 ≤ 1000
        · skip
          refine Or.inr (Or.inr (Or.inr ⟨0, 3, a 9, a 10, a 8, ?_, ?_, rfl, ⟨h1, h2, h3, h4, h5, h6, h7, h8, h9, h10, h11, h12, h13, h14, h15, h16, h17⟩⟩))
          · simp only [fn_Room_risk, pu_rix, pu_rsp, pu_rin, pu_rise p2 p3, if_pos w0, if_neg (by decide : ¬ (3 : Int32) = 0), if_neg (by decide : ¬ (3 : Int32) = 1), if_neg (by decide : ¬ (3 : Int32) = 2), if_pos (by decide : (3 : Int32) = 3), ↓reduceIte, if_pos c1, if_neg c2, if_pos c3, if_pos c4, if_neg (fun hh : ¬ I 13 < 5 => hh c1)] <;> rfl
          · simp only [fn_Model_risk, pu_mw, pu_le3, pu_ml, pu_b1, if_pos w0, if_pos w9, if_neg pu_n0, if_pos ix4, p1, show (5 : Int32) * 3 = 15 from rfl, mr, pu_nle 5, pu_goes, pu_b2, ↓reduceIte, if_pos c1, if_neg c2, if_pos c3, if_pos c4, if_neg (fun hh : ¬ I 13 < 5 => hh c1)] <;> rfl
        · skip
          refine Or.inr (Or.inr (Or.inr ⟨0, 3, a 9, a 10, a 8, ?_, ?_, rfl, ⟨h1, h2, h3, h4, h5, h6, h7, h8, h9, h10, h11, h12, h13, h14, h15, h16, h17⟩⟩))
          · simp only [fn_Room_risk, pu_rix, pu_rsp, pu_rin, pu_rise p2 p3, if_pos w0, if_neg (by decide : ¬ (3 : Int32) = 0), if_neg (by decide : ¬ (3 : Int32) = 1), if_neg (by decide : ¬ (3 : Int32) = 2), if_pos (by decide : (3 : Int32) = 3), ↓reduceIte, if_pos c1, if_neg c2, if_pos c3, if_neg c4, if_neg (fun hh : ¬ I 13 < 5 => hh c1)] <;> rfl
          · simp only [fn_Model_risk, pu_mw, pu_le3, pu_ml, pu_b1, if_pos w0, if_pos w9, if_neg pu_n0, if_pos ix4, p1, show (5 : Int32) * 3 = 15 from rfl, mr, pu_nle 5, pu_goes, pu_b2, ↓reduceIte, if_pos c1, if_neg c2, if_pos c3, if_neg c4, if_neg (fun hh : ¬ I 13 < 5 => hh c1)] <;> rfl
      · skip
        by_cases c4 : (0 : Int32) ≤ x3 ∧ x3 ≤ 1000
        · skip
          refine Or.inr (Or.inr (Or.inr ⟨0, 3, a 9, a 10, a 8, ?_, ?_, rfl, ⟨h1, h2, h3, h4, h5, h6, h7, h8, h9, h10, h11, h12, h13, h14, h15, h16, h17⟩⟩))
          · simp only [fn_Room_risk, pu_rix, pu_rsp, pu_rin, pu_rise p2 p3, if_pos w0, if_neg (by decide : ¬ (3 : Int32) = 0), if_neg (by decide : ¬ (3 : Int32) = 1), if_neg (by decide : ¬ (3 : Int32) = 2), if_pos (by decide : (3 : Int32) = 3), ↓reduceIte, if_pos c1, if_neg c2, if_neg c3, if_pos c4, if_neg (fun hh : ¬ I 13 < 5 => hh c1)] <;> rfl
          · simp only [fn_Model_risk, pu_mw, pu_le3, pu_ml, pu_b1, if_pos w0, if_pos w9, if_neg pu_n0, if_pos ix4, p1, show (5 : Int32) * 3 = 15 from rfl, mr, pu_nle 5, pu_goes, pu_b2, ↓reduceIte, if_pos c1, if_neg c2, if_neg c3, if_pos c4, if_neg (fun hh : ¬ I 13 < 5 => hh c1)] <;> rfl
        · skip
          refine Or.inr (Or.inr (Or.inr ⟨0, 3, a 9, a 10, a 8, ?_, ?_, rfl, ⟨h1, h2, h3, h4, h5, h6, h7, h8, h9, h10, h11, h12, h13, h14, h15, h16, h17⟩⟩))
          · simp only [fn_Room_risk, pu_rix, pu_rsp, pu_rin, pu_rise p2 p3, if_pos w0, if_neg (by decide : ¬ (3 : Int32) = 0), if_neg (by decide : ¬ (3 : Int32) = 1), if_neg (by decide : ¬ (3 : Int32) = 2), if_pos (by decide : (3 : Int32) = 3), ↓reduceIte, if_pos c1, if_neg c2, if_neg c3, if_neg c4, if_neg (fun hh : ¬ I 13 < 5 => hh c1)] <;> rfl
          · simp only [fn_Model_risk, pu_mw, pu_le3, pu_ml, pu_b1, if_pos w0, if_pos w9, if_neg pu_n0, if_pos ix4, p1, show (5 : Int32) * 3 = 15 from rfl, mr, pu_nle 5, pu_goes, pu_b2, ↓reduceIte, if_pos c1, if_neg c2, if_neg c3, if_neg c4, if_neg (fun hh : ¬ I 13 < 5 => hh c1)] <;> rfl
  · skip
    by_cases c2 : (-60000 : Int32) ≤ x2 ∧ x2 ≤ 60000
    · skip
      by_cases c3 : I 13 = 0 ∨ A 22 (I 13 - 1).toNatClampNeg < x2
      · skip
        by_cases c4 : (0 : Int32) ≤ x3 ∧ x3 ≤ 1000
        · skip
          refine Or.inr (Or.inr (Or.inl ⟨0, 2, a 9, a 10, a 8, ?_, ?_, rfl, ⟨h1, h2, h3, h4, h5, h6, h7, h8, h9, h10, h11, h12, h13, h14, h15, h16, h17⟩⟩))
          · simp only [fn_Room_risk, pu_rix, pu_rsp, pu_rin, pu_rise p2 p3, if_pos w0, if_neg (by decide : ¬ (3 : Int32) = 0), if_neg (by decide : ¬ (3 : Int32) = 1), if_neg (by decide : ¬ (3 : Int32) = 2), if_pos (by decide : (3 : Int32) = 3), ↓reduceIte, if_neg c1, if_pos c2, if_pos c3, if_pos c4, if_pos (c1 : ¬ I 13 < 5)] <;> rfl
          · simp only [fn_Model_risk, pu_mw, pu_le3, pu_ml, pu_b1, if_pos w0, if_pos w9, if_neg pu_n0, if_pos ix4, p1, show (5 : Int32) * 3 = 15 from rfl, mr, pu_nle 5, pu_goes, pu_b2, ↓reduceIte, if_neg c1, if_pos c2, if_pos c3, if_pos c4, if_pos (c1 : ¬ I 13 < 5)] <;> rfl
        · skip
          refine Or.inr (Or.inr (Or.inl ⟨0, 2, a 9, a 10, a 8, ?_, ?_, rfl, ⟨h1, h2, h3, h4, h5, h6, h7, h8, h9, h10, h11, h12, h13, h14, h15, h16, h17⟩⟩))
          · simp only [fn_Room_risk, pu_rix, pu_rsp, pu_rin, pu_rise p2 p3, if_pos w0, if_neg (by decide : ¬ (3 : Int32) = 0), if_neg (by decide : ¬ (3 : Int32) = 1), if_neg (by decide : ¬ (3 : Int32) = 2), if_pos (by decide : (3 : Int32) = 3), ↓reduceIte, if_neg c1, if_pos c2, if_pos c3, if_neg c4, if_pos (c1 : ¬ I 13 < 5)] <;> rfl
          · simp only [fn_Model_risk, pu_mw, pu_le3, pu_ml, pu_b1, if_pos w0, if_pos w9, if_neg pu_n0, if_pos ix4, p1, show (5 : Int32) * 3 = 15 from rfl, mr, pu_nle 5, pu_goes, pu_b2, ↓reduceIte, if_neg c1, if_pos c2, if_pos c3, if_neg c4, if_pos (c1 : ¬ I 13 < 5)] <;> rfl
      · skip
        by_cases c4 : (0 : Int32) ≤ x3 ∧ x3 ≤ 1000
        · skip
          refine Or.inr (Or.inr (Or.inl ⟨0, 2, a 9, a 10, a 8, ?_, ?_, rfl, ⟨h1, h2, h3, h4, h5, h6, h7, h8, h9, h10, h11, h12, h13, h14, h15, h16, h17⟩⟩))
          · simp only [fn_Room_risk, pu_rix, pu_rsp, pu_rin, pu_rise p2 p3, if_pos w0, if_neg (by decide : ¬ (3 : Int32) = 0), if_neg (by decide : ¬ (3 : Int32) = 1), if_neg (by decide : ¬ (3 : Int32) = 2), if_pos (by decide : (3 : Int32) = 3), ↓reduceIte, if_neg c1, if_pos c2, if_neg c3, if_pos c4, if_pos (c1 : ¬ I 13 < 5)] <;> rfl
          · simp only [fn_Model_risk, pu_mw, pu_le3, pu_ml, pu_b1, if_pos w0, if_pos w9, if_neg pu_n0, if_pos ix4, p1, show (5 : Int32) * 3 = 15 from rfl, mr, pu_nle 5, pu_goes, pu_b2, ↓reduceIte, if_neg c1, if_pos c2, if_neg c3, if_pos c4, if_pos (c1 : ¬ I 13 < 5)] <;> rfl
        · skip
          refine Or.inr (Or.inr (Or.inl ⟨0, 2, a 9, a 10, a 8, ?_, ?_, rfl, ⟨h1, h2, h3, h4, h5, h6, h7, h8, h9, h10, h11, h12, h13, h14, h15, h16, h17⟩⟩))
          · simp only [fn_Room_risk, pu_rix, pu_rsp, pu_rin, pu_rise p2 p3, if_pos w0, if_neg (by decide : ¬ (3 : Int32) = 0), if_neg (by decide : ¬ (3 : Int32) = 1), if_neg (by decide : ¬ (3 : Int32) = 2), if_pos (by decide : (3 : Int32) = 3), ↓reduceIte, if_neg c1, if_pos c2, if_neg c3, if_neg c4, if_pos (c1 : ¬ I 13 < 5)] <;> rfl
          · simp only [fn_Model_risk, pu_mw, pu_le3, pu_ml, pu_b1, if_pos w0, if_pos w9, if_neg pu_n0, if_pos ix4, p1, show (5 : Int32) * 3 = 15 from rfl, mr, pu_nle 5, pu_goes, pu_b2, ↓reduceIte, if_neg c1, if_pos c2, if_neg c3, if_neg c4, if_pos (c1 : ¬ I 13 < 5)] <;> rfl
    · skip
      by_cases c3 : I 13 = 0 ∨ A 22 (I 13 - 1).toNatClampNeg < x2
      · skip
        by_cases c4 : (0 : Int32) ≤ x3 ∧ x3 ≤ 1000
        · skip
          refine Or.inr (Or.inr (Or.inl ⟨0, 2, a 9, a 10, a 8, ?_, ?_, rfl, ⟨h1, h2, h3, h4, h5, h6, h7, h8, h9, h10, h11, h12, h13, h14, h15, h16, h17⟩⟩))
          · simp only [fn_Room_risk, pu_rix, pu_rsp, pu_rin, pu_rise p2 p3, if_pos w0, if_neg (by decide : ¬ (3 : Int32) = 0), if_neg (by decide : ¬ (3 : Int32) = 1), if_neg (by decide : ¬ (3 : Int32) = 2), if_pos (by decide : (3 : Int32) = 3), ↓reduceIte, if_neg c1, if_neg c2, if_pos c3, if_pos c4, if_pos (c1 : ¬ I 13 < 5)] <;> rfl
          · simp only [fn_Model_risk, pu_mw, pu_le3, pu_ml, pu_b1, if_pos w0, if_pos w9, if_neg pu_n0, if_pos ix4, p1, show (5 : Int32) * 3 = 15 from rfl, mr, pu_nle 5, pu_goes, pu_b2, ↓reduceIte, if_neg c1, if_neg c2, if_pos c3, if_pos c4, if_pos (c1 : ¬ I 13 < 5)] <;> rfl
        · skip
          refine Or.inr (Or.inr (Or.inl ⟨0, 2, a 9, a 10, a 8, ?_, ?_, rfl, ⟨h1, h2, h3, h4, h5, h6, h7, h8, h9, h10, h11, h12, h13, h14, h15, h16, h17⟩⟩))
          · simp only [fn_Room_risk, pu_rix, pu_rsp, pu_rin, pu_rise p2 p3, if_pos w0, if_neg (by decide : ¬ (3 : Int32) = 0), if_neg (by decide : ¬ (3 : Int32) = 1), if_neg (by decide : ¬ (3 : Int32) = 2), if_pos (by decide : (3 : Int32) = 3), ↓reduceIte, if_neg c1, if_neg c2, if_pos c3, if_neg c4, if_pos (c1 : ¬ I 13 < 5)] <;> rfl
          · simp only [fn_Model_risk, pu_mw, pu_le3, pu_ml, pu_b1, if_pos w0, if_pos w9, if_neg pu_n0, if_pos ix4, p1, show (5 : Int32) * 3 = 15 from rfl, mr, pu_nle 5, pu_goes, pu_b2, ↓reduceIte, if_neg c1, if_neg c2, if_pos c3, if_neg c4, if_pos (c1 : ¬ I 13 < 5)] <;> rfl
      · skip
        by_cases c4 : (0 : Int32) ≤ x3 ∧ x3 ≤ 1000
        · skip
          refine Or.inr (Or.inr (Or.inl ⟨0, 2, a 9, a 10, a 8, ?_, ?_, rfl, ⟨h1, h2, h3, h4, h5, h6, h7, h8, h9, h10, h11, h12, h13, h14, h15, h16, h17⟩⟩))
          · simp only [fn_Room_risk, pu_rix, pu_rsp, pu_rin, pu_rise p2 p3, if_pos w0, if_neg (by decide : ¬ (3 : Int32) = 0), if_neg (by decide : ¬ (3 : Int32) = 1), if_neg (by decide : ¬ (3 : Int32) = 2), if_pos (by decide : (3 : Int32) = 3), ↓reduceIte, if_neg c1, if_neg c2, if_neg c3, if_pos c4, if_pos (c1 : ¬ I 13 < 5)] <;> rfl
          · simp only [fn_Model_risk, pu_mw, pu_le3, pu_ml, pu_b1, if_pos w0, if_pos w9, if_neg pu_n0, if_pos ix4, p1, show (5 : Int32) * 3 = 15 from rfl, mr, pu_nle 5, pu_goes, pu_b2, ↓reduceIte, if_neg c1, if_neg c2, if_neg c3, if_pos c4, if_pos (c1 : ¬ I 13 < 5)] <;> rfl
        · skip
          refine Or.inr (Or.inr (Or.inl ⟨0, 2, a 9, a 10, a 8, ?_, ?_, rfl, ⟨h1, h2, h3, h4, h5, h6, h7, h8, h9, h10, h11, h12, h13, h14, h15, h16, h17⟩⟩))
          · simp only [fn_Room_risk, pu_rix, pu_rsp, pu_rin, pu_rise p2 p3, if_pos w0, if_neg (by decide : ¬ (3 : Int32) = 0), if_neg (by decide : ¬ (3 : Int32) = 1), if_neg (by decide : ¬ (3 : Int32) = 2), if_pos (by decide : (3 : Int32) = 3), ↓reduceIte, if_neg c1, if_neg c2, if_neg c3, if_neg c4, if_pos (c1 : ¬ I 13 < 5)] <;> rfl
          · simp only [fn_Model_risk, pu_mw, pu_le3, pu_ml, pu_b1, if_pos w0, if_pos w9, if_neg pu_n0, if_pos ix4, p1, show (5 : Int32) * 3 = 15 from rfl, mr, pu_nle 5, pu_goes, pu_b2, ↓reduceIte, if_neg c1, if_neg c2, if_neg c3, if_neg c4, if_pos (c1 : ¬ I 13 < 5)] <;> rfl
theorem ps_risk {I : Nat → Int32} {J : Nat → Int64} {A : Nat → Nat → Int32} {L : Nat → Nat → Int64} {i : Nat → Int32} {a : Nat → Nat → Int32} {l9 : Nat → Nat → Int64} (h : pu_Rel I J A L i a l9) (o : Nat → Int64) (x1 x2 x3 : Int32) : st_risk pu_Rel I J A L i a l9 o x1 x2 x3 := by
  by_cases c0 : 0 ≤ x1 ∧ x1 < 4
  · obtain ⟨g0, g1, g2⟩ := pu_nn c0
    have g1 : x1.toInt < 4 := g1
    have hc : x1.toInt = 0 ∨ x1.toInt = 1 ∨ x1.toInt = 2 ∨ x1.toInt = 3 := by omega
    rcases hc with hc | hc | hc | hc
    · have hx : x1 = 0 := Int32.toInt_inj.1 hc
      subst hx
      exact pr_risk0 h o x2 x3
    · have hx : x1 = 1 := Int32.toInt_inj.1 hc
      subst hx
      exact pr_risk1 h o x2 x3
    · have hx : x1 = 2 := Int32.toInt_inj.1 hc
      subst hx
      exact pr_risk2 h o x2 x3
    · have hx : x1 = 3 := Int32.toInt_inj.1 hc
      subst hx
      exact pr_risk3 h o x2 x3
  · obtain ⟨h1, h2, h3, h4, h5, h6, h7, h8, h9, h10, h11, h12, h13, h14, h15, h16, h17⟩ := h
    unfold st_risk
    refine Or.inr (Or.inl ⟨0, 1, a 9, a 10, a 8, ?_, ?_, rfl, ⟨h1, h2, h3, h4, h5, h6, h7, h8, h9, h10, h11, h12, h13, h14, h15, h16, h17⟩⟩)
    · simp only [fn_Room_risk, pu_rix, if_neg c0] <;> rfl
    · by_cases c2 : (-60000 : Int32) ≤ x2 ∧ x2 ≤ 60000
      · by_cases c4 : (0 : Int32) ≤ x3 ∧ x3 ≤ 1000
        · simp only [fn_Model_risk, pu_mw, pu_le3, pu_ml, pu_b1, if_neg c0, if_pos c2, if_pos c4] <;> rfl
        · simp only [fn_Model_risk, pu_mw, pu_le3, pu_ml, pu_b1, if_neg c0, if_pos c2, if_neg c4] <;> rfl
      · simp only [fn_Model_risk, pu_mw, pu_le3, pu_ml, pu_b1, if_neg c0, if_neg c2] <;> rfl
