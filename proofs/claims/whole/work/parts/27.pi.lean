theorem pu_le3 (x : Int32) : x ≤ 3 ↔ x < 4 := by
  have z3 : (3 : Int32).toInt = 3 := rfl
  have z4 : (4 : Int32).toInt = 4 := rfl
  rw [Int32.le_iff_toInt_le, Int32.lt_iff_toInt_lt]
  omega
theorem pu_rise {n : Int32} {f : Nat → Int32} {N : Nat} (h0 : 0 ≤ n.toInt) (hN : n.toInt ≤ N) (x : Int32) : fn_Room_requireRise n f N x = if (n = 0 ∨ f (n - 1).toNatClampNeg < x) then some (.inr ()) else some (.inl 3) := by
  unfold fn_Room_requireRise fn_Steps_wouldRise
  by_cases c : n = 0
  · rw [if_pos c, if_pos (Or.inl c)]
    rfl
  · have z1 : (1 : Int32).toInt = 1 := rfl
    have c3 : n.toInt ≠ 0 := fun hh => c (Int32.toInt_inj.1 hh)
    have e1 : (n - 1).toInt = n.toInt - 1 := by
      have u := n.toInt_lt
      rw [pu_sub (by omega) (by omega), z1]
    have ix : gx_ix (n - 1) N = true := pu_ix (by omega) (by omega)
    rw [if_neg c, if_pos ix]
    by_cases g : x ≤ f (n - 1).toNatClampNeg
    · rw [if_pos g, if_neg (fun hh => hh.elim c (fun h9 => absurd h9 (Int32.not_lt.2 g)))]
      rfl
    · rw [if_neg g, if_pos (Or.inr (Int32.not_le.1 g))]
      rfl
theorem pu_mrise {n : Int32} {f : Nat → Int32} {N : Nat} (h0 : 0 ≤ n.toInt) (hN : n.toInt ≤ N) (x : Int32) : (if n = 0 then some (1 : Int32) else if gx_ix (n - 1) N = true then gx_b1 (if x ≤ f (n - 1).toNatClampNeg then some (0 : Int32) else some 1) (fun j => some j) else none) = some (if (n = 0 ∨ f (n - 1).toNatClampNeg < x) then 1 else 0) := by
  by_cases c : n = 0
  · rw [if_pos c, if_pos (Or.inl c)]
  · have z1 : (1 : Int32).toInt = 1 := rfl
    have c3 : n.toInt ≠ 0 := fun hh => c (Int32.toInt_inj.1 hh)
    have e1 : (n - 1).toInt = n.toInt - 1 := by
      have u := n.toInt_lt
      rw [pu_sub (by omega) (by omega), z1]
    have ix : gx_ix (n - 1) N = true := pu_ix (by omega) (by omega)
    rw [if_neg c, if_pos ix]
    by_cases g : x ≤ f (n - 1).toNatClampNeg
    · rw [if_pos g, if_neg (fun hh => hh.elim c (fun h9 => absurd h9 (Int32.not_lt.2 g)))]
      rfl
    · rw [if_neg g, if_pos (Or.inr (Int32.not_le.1 g))]
      rfl
theorem pu_nle (a b : Int32) : (a ≤ b) ↔ ¬ b < a := Int32.not_lt.symm
theorem ps_row {I : Nat → Int32} {J : Nat → Int64} {A : Nat → Nat → Int32} {L : Nat → Nat → Int64} {i : Nat → Int32} {a : Nat → Nat → Int32} {l9 : Nat → Nat → Int64} (h : pu_Rel I J A L i a l9) (o : Nat → Int64) (x1 x2 : Int32) : st_row pu_Rel I J A L i a l9 o x1 x2 := by
  obtain ⟨h1, h2, h3, h4, h5, h6, h7, h8, h9, h10, h11, h12, h13, h14, h15, h16, h17⟩ := h
  unfold st_row
  obtain ⟨e4, e5, e2, e3, b0, b6⟩ := h3
  have h3 : pu_Rgood (I 4) (I 5) (A 2) (A 3) (i 4) (i 5) (a 2) (a 3) := ⟨e4, e5, e2, e3, b0, b6⟩
  by_cases c1 : I 5 < 6
  · skip
    by_cases c2 : (0 : Int32) ≤ x1 ∧ x1 ≤ 60000
    · skip
      by_cases c3 : (0 : Int32) ≤ x2 ∧ x2 ≤ 10000
      · skip
        by_cases c4 : I 5 = 0 ∨ A 2 (I 5 - 1).toNatClampNeg < x1
        · skip
          have d1 : (I 5).toInt < 6 := Int32.lt_iff_toInt_lt.1 c1
          have ix : gx_ix (I 5) 6 = true := pu_ix b0 (by omega)
          have s1 : (I 5 + 1).toInt = (I 5).toInt + 1 := by
            have z1 : (1 : Int32).toInt = 1 := rfl
            rw [pu_add (by omega) (by omega), z1]
          refine Or.inl ⟨upd (A 2) (I 5).toNatClampNeg x1, upd (A 3) (I 5).toNatClampNeg x2, I 5 + 1, vp_updL o (0 : Int32).toNatClampNeg (I 5 + 1 - 1).toInt64, I 5 + 1 - 1, 0, upd (A 2) (I 5).toNatClampNeg x1, upd (A 3) (I 5).toNatClampNeg x2, I 5 + 1, ?_, ?_, rfl, (lg_cmp_eq _ _).2 pk_uLs, ⟨h1, h2, ⟨e4, rfl, rfl, rfl, ?_, ?_⟩, h4, h5, h6, h7, h8, h9, h10, h11, h12, h13, h14, h15, h16, h17⟩⟩
          · simp only [fn_Law_row, fn_Room_row, fn_Steps_append, pu_rsp, pu_rin, pu_rise b0 b6, if_pos ix, if_pos c1, if_pos c2, if_pos c3, if_pos c4, if_neg (fun hh : ¬ I 5 < 6 => hh c1)] <;> rfl
          · simp only [fn_Model_row, e5, e2, e3, pu_mrise b0 b6, pu_mw, pu_nle 6, pu_b1, if_pos ix, if_pos c1, if_pos c2, if_pos c3, if_pos c4, if_neg (fun hh : ¬ I 5 < 6 => hh c1)] <;> rfl
          · show 0 ≤ (I 5 + 1).toInt
            omega
          · show (I 5 + 1).toInt ≤ 6
            omega
        · skip
          refine Or.inr (Or.inr ⟨0, 2, a 2, a 3, i 5, ?_, ?_, rfl, ⟨h1, h2, h3, h4, h5, h6, h7, h8, h9, h10, h11, h12, h13, h14, h15, h16, h17⟩⟩)
          · simp only [fn_Room_row, pu_rsp, pu_rin, pu_rise b0 b6, if_pos c1, if_pos c2, if_pos c3, if_neg c4, if_neg (fun hh : ¬ I 5 < 6 => hh c1)] <;> rfl
          · simp only [fn_Model_row, e5, e2, e3, pu_mrise b0 b6, pu_mw, pu_nle 6, pu_b1, if_pos c1, if_pos c2, if_pos c3, if_neg c4, if_neg (fun hh : ¬ I 5 < 6 => hh c1)] <;> rfl
      · skip
        by_cases c4 : I 5 = 0 ∨ A 2 (I 5 - 1).toNatClampNeg < x1
        · skip
          refine Or.inr (Or.inr ⟨0, 2, a 2, a 3, i 5, ?_, ?_, rfl, ⟨h1, h2, h3, h4, h5, h6, h7, h8, h9, h10, h11, h12, h13, h14, h15, h16, h17⟩⟩)
          · simp only [fn_Room_row, pu_rsp, pu_rin, pu_rise b0 b6, if_pos c1, if_pos c2, if_neg c3, if_pos c4, if_neg (fun hh : ¬ I 5 < 6 => hh c1)] <;> rfl
          · simp only [fn_Model_row, e5, e2, e3, pu_mrise b0 b6, pu_mw, pu_nle 6, pu_b1, if_pos c1, if_pos c2, if_neg c3, if_pos c4, if_neg (fun hh : ¬ I 5 < 6 => hh c1)] <;> rfl
        · skip
          refine Or.inr (Or.inr ⟨0, 2, a 2, a 3, i 5, ?_, ?_, rfl, ⟨h1, h2, h3, h4, h5, h6, h7, h8, h9, h10, h11, h12, h13, h14, h15, h16, h17⟩⟩)
          · simp only [fn_Room_row, pu_rsp, pu_rin, pu_rise b0 b6, if_pos c1, if_pos c2, if_neg c3, if_neg c4, if_neg (fun hh : ¬ I 5 < 6 => hh c1)] <;> rfl
          · simp only [fn_Model_row, e5, e2, e3, pu_mrise b0 b6, pu_mw, pu_nle 6, pu_b1, if_pos c1, if_pos c2, if_neg c3, if_neg c4, if_neg (fun hh : ¬ I 5 < 6 => hh c1)] <;> rfl
    · skip
      by_cases c3 : (0 : Int32) ≤ x2 ∧ x2 ≤ 10000
      · skip
        by_cases c4 : I 5 = 0 ∨ A 2 (I 5 - 1).toNatClampNeg < x1
        · skip
          refine Or.inr (Or.inr ⟨0, 2, a 2, a 3, i 5, ?_, ?_, rfl, ⟨h1, h2, h3, h4, h5, h6, h7, h8, h9, h10, h11, h12, h13, h14, h15, h16, h17⟩⟩)
          · simp only [fn_Room_row, pu_rsp, pu_rin, pu_rise b0 b6, if_pos c1, if_neg c2, if_pos c3, if_pos c4, if_neg (fun hh : ¬ I 5 < 6 => hh c1)] <;> rfl
          · simp only [fn_Model_row, e5, e2, e3, pu_mrise b0 b6, pu_mw, pu_nle 6, pu_b1, if_pos c1, if_neg c2, if_pos c3, if_pos c4, if_neg (fun hh : ¬ I 5 < 6 => hh c1)] <;> rfl
        · skip
          refine Or.inr (Or.inr ⟨0, 2, a 2, a 3, i 5, ?_, ?_, rfl, ⟨h1, h2, h3, h4, h5, h6, h7, h8, h9, h10, h11, h12, h13, h14, h15, h16, h17⟩⟩)
          · simp only [fn_Room_row, pu_rsp, pu_rin, pu_rise b0 b6, if_pos c1, if_neg c2, if_pos c3, if_neg c4, if_neg (fun hh : ¬ I 5 < 6 => hh c1)] <;> rfl
          · simp only [fn_Model_row, e5, e2, e3, pu_mrise b0 b6, pu_mw, pu_nle 6, pu_b1, if_pos c1, if_neg c2, if_pos c3, if_neg c4, if_neg (fun hh : ¬ I 5 < 6 => hh c1)] <;> rfl
      · skip
        by_cases c4 : I 5 = 0 ∨ A 2 (I 5 - 1).toNatClampNeg < x1
        · skip
          refine Or.inr (Or.inr ⟨0, 2, a 2, a 3, i 5, ?_, ?_, rfl, ⟨h1, h2, h3, h4, h5, h6, h7, h8, h9, h10, h11, h12, h13, h14, h15, h16, h17⟩⟩)
          · simp only [fn_Room_row, pu_rsp, pu_rin, pu_rise b0 b6, if_pos c1, if_neg c2, if_neg c3, if_pos c4, if_neg (fun hh : ¬ I 5 < 6 => hh c1)] <;> rfl
          · simp only [fn_Model_row, e5, e2, e3, pu_mrise b0 b6, pu_mw, pu_nle 6, pu_b1, if_pos c1, if_neg c2, if_neg c3, if_pos c4, if_neg (fun hh : ¬ I 5 < 6 => hh c1)] <;> rfl
        · skip
          refine Or.inr (Or.inr ⟨0, 2, a 2, a 3, i 5, ?_, ?_, rfl, ⟨h1, h2, h3, h4, h5, h6, h7, h8, h9, h10, h11, h12, h13, h14, h15, h16, h17⟩⟩)
          · simp only [fn_Room_row, pu_rsp, pu_rin, pu_rise b0 b6, if_pos c1, if_neg c2, if_neg c3, if_neg c4, if_neg (fun hh : ¬ I 5 < 6 => hh c1)] <;> rfl
          · simp only [fn_Model_row, e5, e2, e3, pu_mrise b0 b6, pu_mw, pu_nle 6, pu_b1, if_pos c1, if_neg c2, if_neg c3, if_neg c4, if_neg (fun hh : ¬ I 5 < 6 => hh c1)] <;> rfl
  · skip
    by_cases c2 : (0 : Int32) ≤ x1 ∧ x1 ≤ 60000
    · skip
      by_cases c3 : (0 : Int32) ≤ x2 ∧ x2 ≤ 10000
      · skip
        by_cases c4 : I 5 = 0 ∨ A 2 (I 5 - 1).toNatClampNeg < x1
        · skip
          refine Or.inr (Or.inl ⟨0, 1, a 2, a 3, i 5, ?_, ?_, rfl, ⟨h1, h2, h3, h4, h5, h6, h7, h8, h9, h10, h11, h12, h13, h14, h15, h16, h17⟩⟩)
          · simp only [fn_Room_row, pu_rsp, pu_rin, pu_rise b0 b6, if_neg c1, if_pos c2, if_pos c3, if_pos c4, if_pos (c1 : ¬ I 5 < 6)] <;> rfl
          · simp only [fn_Model_row, e5, e2, e3, pu_mrise b0 b6, pu_mw, pu_nle 6, pu_b1, if_neg c1, if_pos c2, if_pos c3, if_pos c4, if_pos (c1 : ¬ I 5 < 6)] <;> rfl
        · skip
          refine Or.inr (Or.inl ⟨0, 1, a 2, a 3, i 5, ?_, ?_, rfl, ⟨h1, h2, h3, h4, h5, h6, h7, h8, h9, h10, h11, h12, h13, h14, h15, h16, h17⟩⟩)
          · simp only [fn_Room_row, pu_rsp, pu_rin, pu_rise b0 b6, if_neg c1, if_pos c2, if_pos c3, if_neg c4, if_pos (c1 : ¬ I 5 < 6)] <;> rfl
          · simp only [fn_Model_row, e5, e2, e3, pu_mrise b0 b6, pu_mw, pu_nle 6, pu_b1, if_neg c1, if_pos c2, if_pos c3, if_neg c4, if_pos (c1 : ¬ I 5 < 6)] <;> rfl
      · skip
        by_cases c4 : I 5 = 0 ∨ A 2 (I 5 - 1).toNatClampNeg < x1
        · skip
          refine Or.inr (Or.inl ⟨0, 1, a 2, a 3, i 5, ?_, ?_, rfl, ⟨h1, h2, h3, h4, h5, h6, h7, h8, h9, h10, h11, h12, h13, h14, h15, h16, h17⟩⟩)
          · simp only [fn_Room_row, pu_rsp, pu_rin, pu_rise b0 b6, if_neg c1, if_pos c2, if_neg c3, if_pos c4, if_pos (c1 : ¬ I 5 < 6)] <;> rfl
          · simp only [fn_Model_row, e5, e2, e3, pu_mrise b0 b6, pu_mw, pu_nle 6, pu_b1, if_neg c1, if_pos c2, if_neg c3, if_pos c4, if_pos (c1 : ¬ I 5 < 6)] <;> rfl
        · skip
          refine Or.inr (Or.inl ⟨0, 1, a 2, a 3, i 5, ?_, ?_, rfl, ⟨h1, h2, h3, h4, h5, h6, h7, h8, h9, h10, h11, h12, h13, h14, h15, h16, h17⟩⟩)
          · simp only [fn_Room_row, pu_rsp, pu_rin, pu_rise b0 b6, if_neg c1, if_pos c2, if_neg c3, if_neg c4, if_pos (c1 : ¬ I 5 < 6)] <;> rfl
          · simp only [fn_Model_row, e5, e2, e3, pu_mrise b0 b6, pu_mw, pu_nle 6, pu_b1, if_neg c1, if_pos c2, if_neg c3, if_neg c4, if_pos (c1 : ¬ I 5 < 6)] <;> rfl
    · skip
      by_cases c3 : (0 : Int32) ≤ x2 ∧ x2 ≤ 10000
      · skip
        by_cases c4 : I 5 = 0 ∨ A 2 (I 5 - 1).toNatClampNeg < x1
        · skip
          refine Or.inr (Or.inl ⟨0, 1, a 2, a 3, i 5, ?_, ?_, rfl, ⟨h1, h2, h3, h4, h5, h6, h7, h8, h9, h10, h11, h12, h13, h14, h15, h16, h17⟩⟩)
          · simp only [fn_Room_row, pu_rsp, pu_rin, pu_rise b0 b6, if_neg c1, if_neg c2, if_pos c3, if_pos c4, if_pos (c1 : ¬ I 5 < 6)] <;> rfl
          · simp only [fn_Model_row, e5, e2, e3, pu_mrise b0 b6, pu_mw, pu_nle 6, pu_b1, if_neg c1, if_neg c2, if_pos c3, if_pos c4, if_pos (c1 : ¬ I 5 < 6)] <;> rfl
        · skip
          refine Or.inr (Or.inl ⟨0, 1, a 2, a 3, i 5, ?_, ?_, rfl, ⟨h1, h2, h3, h4, h5, h6, h7, h8, h9, h10, h11, h12, h13, h14, h15, h16, h17⟩⟩)
          · simp only [fn_Room_row, pu_rsp, pu_rin, pu_rise b0 b6, if_neg c1, if_neg c2, if_pos c3, if_neg c4, if_pos (c1 : ¬ I 5 < 6)] <;> rfl
          · simp only [fn_Model_row, e5, e2, e3, pu_mrise b0 b6, pu_mw, pu_nle 6, pu_b1, if_neg c1, if_neg c2, if_pos c3, if_neg c4, if_pos (c1 : ¬ I 5 < 6)] <;> rfl
      · skip
        by_cases c4 : I 5 = 0 ∨ A 2 (I 5 - 1).toNatClampNeg < x1
        · skip
          refine Or.inr (Or.inl ⟨0, 1, a 2, a 3, i 5, ?_, ?_, rfl, ⟨h1, h2, h3, h4, h5, h6, h7, h8, h9, h10, h11, h12, h13, h14, h15, h16, h17⟩⟩)
          · simp only [fn_Room_row, pu_rsp, pu_rin, pu_rise b0 b6, if_neg c1, if_neg c2, if_neg c3, if_pos c4, if_pos (c1 : ¬ I 5 < 6)] <;> rfl
          · simp only [fn_Model_row, e5, e2, e3, pu_mrise b0 b6, pu_mw, pu_nle 6, pu_b1, if_neg c1, if_neg c2, if_neg c3, if_pos c4, if_pos (c1 : ¬ I 5 < 6)] <;> rfl
        · skip
          refine Or.inr (Or.inl ⟨0, 1, a 2, a 3, i 5, ?_, ?_, rfl, ⟨h1, h2, h3, h4, h5, h6, h7, h8, h9, h10, h11, h12, h13, h14, h15, h16, h17⟩⟩)
          · simp only [fn_Room_row, pu_rsp, pu_rin, pu_rise b0 b6, if_neg c1, if_neg c2, if_neg c3, if_neg c4, if_pos (c1 : ¬ I 5 < 6)] <;> rfl
          · simp only [fn_Model_row, e5, e2, e3, pu_mrise b0 b6, pu_mw, pu_nle 6, pu_b1, if_neg c1, if_neg c2, if_neg c3, if_neg c4, if_pos (c1 : ¬ I 5 < 6)] <;> rfl
theorem ps_rule {I : Nat → Int32} {J : Nat → Int64} {A : Nat → Nat → Int32} {L : Nat → Nat → Int64} {i : Nat → Int32} {a : Nat → Nat → Int32} {l9 : Nat → Nat → Int64} (h : pu_Rel I J A L i a l9) (o : Nat → Int64) (x1 x2 x3 : Int32) : st_rule pu_Rel I J A L i a l9 o x1 x2 x3 := by
  obtain ⟨h1, h2, h3, h4, h5, h6, h7, h8, h9, h10, h11, h12, h13, h14, h15, h16, h17⟩ := h
  unfold st_rule
  obtain ⟨e1, e2, e3, e4, e5, b0, b4, b5, b6⟩ := h12
  have h12 : pu_Rrule (I 0) (I 14) (A 25) (A 26) (A 27) (A 28) (i 7) (a 12) (a 13) (a 14) (a 15) := ⟨e1, e2, e3, e4, e5, b0, b4, b5, b6⟩
  by_cases c1 : I 14 < 4
  · skip
    by_cases c2 : (0 : Int32) ≤ x1 ∧ x1 ≤ 3
    · skip
      by_cases c3 : (-60000 : Int32) ≤ x2 ∧ x2 ≤ 60000
      · skip
        by_cases c4 : (1 : Int32) ≤ x3 ∧ x3 ≤ 99
        · skip
          have d1 : (I 14).toInt < 4 := Int32.lt_iff_toInt_lt.1 c1
          have ix : gx_ix (I 14) 4 = true := pu_ix b0 (by omega)
          have t : (I 14).toNatClampNeg = (I 14).toInt.toNat := rfl
          have s1 : (I 14 + 1).toInt = (I 14).toInt + 1 := by
            have z1 : (1 : Int32).toInt = 1 := rfl
            rw [pu_add (by omega) (by omega), z1]
          refine Or.inl ⟨upd (A 25) (I 14).toNatClampNeg x1, upd (A 26) (I 14).toNatClampNeg x2, upd (A 27) (I 14).toNatClampNeg x3, I 14 + 1, vp_updL o (0 : Int32).toNatClampNeg (I 14 + 1 - 1).toInt64, I 14 + 1 - 1, 0, upd (A 25) (I 14).toNatClampNeg x1, upd (A 26) (I 14).toNatClampNeg x2, upd (A 27) (I 14).toNatClampNeg x3, I 14 + 1, ?_, ?_, rfl, (lg_cmp_eq _ _).2 pk_uLs, ⟨h1, h2, h3, h4, h5, h6, h7, h8, h9, h10, h11, ⟨rfl, rfl, rfl, rfl, e5, ?_, ?_, b5, ?_⟩, h13, h14, h15, h16, h17⟩⟩
          · simp only [fn_Law_rule, fn_Room_rule, fn_Rules_append, pu_rsp, pu_rin, if_pos ix, if_pos c1, if_pos c2, if_pos c3, if_pos c4, if_neg (fun hh : ¬ I 14 < 4 => hh c1)] <;> rfl
          · simp only [fn_Model_rule, e1, e2, e3, e4, pu_ml, pu_mw, pu_nle 4, pu_b1, if_pos ix, if_pos c1, if_pos c2, if_pos c3, if_pos c4, if_neg (fun hh : ¬ I 14 < 4 => hh c1)] <;> rfl
          · show 0 ≤ (I 14 + 1).toInt
            omega
          · show (I 14 + 1).toInt ≤ 4
            omega
          · intro r hr
            have hr : (r : Int) < (I 14 + 1).toInt := hr
            show 0 ≤ (upd (A 25) (I 14).toNatClampNeg x1 r).toInt ∧ (upd (A 25) (I 14).toNatClampNeg x1 r).toInt ≤ 3 ∧ (upd (A 27) (I 14).toNatClampNeg x3 r).toInt ≤ 99
            by_cases hq : r = (I 14).toNatClampNeg
            · rw [hq, pk_us, pk_us]
              exact ⟨Int32.le_iff_toInt_le.1 c2.1, Int32.le_iff_toInt_le.1 c2.2, Int32.le_iff_toInt_le.1 c4.2⟩
            · rw [pk_un hq, pk_un hq]
              exact b6 r (by omega)
        · skip
          refine Or.inr (Or.inr ⟨0, 2, a 12, a 13, a 14, i 7, ?_, ?_, rfl, ⟨h1, h2, h3, h4, h5, h6, h7, h8, h9, h10, h11, h12, h13, h14, h15, h16, h17⟩⟩)
          · simp only [fn_Room_rule, pu_rsp, pu_rin, if_pos c1, if_pos c2, if_pos c3, if_neg c4, if_neg (fun hh : ¬ I 14 < 4 => hh c1)] <;> rfl
          · simp only [fn_Model_rule, e1, e2, e3, e4, pu_ml, pu_mw, pu_nle 4, pu_b1, if_pos c1, if_pos c2, if_pos c3, if_neg c4, if_neg (fun hh : ¬ I 14 < 4 => hh c1)] <;> rfl
      · skip
        by_cases c4 : (1 : Int32) ≤ x3 ∧ x3 ≤ 99
        · skip
          refine Or.inr (Or.inr ⟨0, 2, a 12, a 13, a 14, i 7, ?_, ?_, rfl, ⟨h1, h2, h3, h4, h5, h6, h7, h8, h9, h10, h11, h12, h13, h14, h15, h16, h17⟩⟩)
          · simp only [fn_Room_rule, pu_rsp, pu_rin, if_pos c1, if_pos c2, if_neg c3, if_pos c4, if_neg (fun hh : ¬ I 14 < 4 => hh c1)] <;> rfl
          · simp only [fn_Model_rule, e1, e2, e3, e4, pu_ml, pu_mw, pu_nle 4, pu_b1, if_pos c1, if_pos c2, if_neg c3, if_pos c4, if_neg (fun hh : ¬ I 14 < 4 => hh c1)] <;> rfl
        · skip
          refine Or.inr (Or.inr ⟨0, 2, a 12, a 13, a 14, i 7, ?_, ?_, rfl, ⟨h1, h2, h3, h4, h5, h6, h7, h8, h9, h10, h11, h12, h13, h14, h15, h16, h17⟩⟩)
          · simp only [fn_Room_rule, pu_rsp, pu_rin, if_pos c1, if_pos c2, if_neg c3, if_neg c4, if_neg (fun hh : ¬ I 14 < 4 => hh c1)] <;> rfl
          · simp only [fn_Model_rule, e1, e2, e3, e4, pu_ml, pu_mw, pu_nle 4, pu_b1, if_pos c1, if_pos c2, if_neg c3, if_neg c4, if_neg (fun hh : ¬ I 14 < 4 => hh c1)] <;> rfl
    · skip
      by_cases c3 : (-60000 : Int32) ≤ x2 ∧ x2 ≤ 60000
      · skip
        by_cases c4 : (1 : Int32) ≤ x3 ∧ x3 ≤ 99
        · skip
          refine Or.inr (Or.inr ⟨0, 2, a 12, a 13, a 14, i 7, ?_, ?_, rfl, ⟨h1, h2, h3, h4, h5, h6, h7, h8, h9, h10, h11, h12, h13, h14, h15, h16, h17⟩⟩)
          · simp only [fn_Room_rule, pu_rsp, pu_rin, if_pos c1, if_neg c2, if_pos c3, if_pos c4, if_neg (fun hh : ¬ I 14 < 4 => hh c1)] <;> rfl
          · simp only [fn_Model_rule, e1, e2, e3, e4, pu_ml, pu_mw, pu_nle 4, pu_b1, if_pos c1, if_neg c2, if_pos c3, if_pos c4, if_neg (fun hh : ¬ I 14 < 4 => hh c1)] <;> rfl
        · skip
          refine Or.inr (Or.inr ⟨0, 2, a 12, a 13, a 14, i 7, ?_, ?_, rfl, ⟨h1, h2, h3, h4, h5, h6, h7, h8, h9, h10, h11, h12, h13, h14, h15, h16, h17⟩⟩)
          · simp only [fn_Room_rule, pu_rsp, pu_rin, if_pos c1, if_neg c2, if_pos c3, if_neg c4, if_neg (fun hh : ¬ I 14 < 4 => hh c1)] <;> rfl
          · simp only [fn_Model_rule, e1, e2, e3, e4, pu_ml, pu_mw, pu_nle 4, pu_b1, if_pos c1, if_neg c2, if_pos c3, if_neg c4, if_neg (fun hh : ¬ I 14 < 4 => hh c1)] <;> rfl
      · skip
        by_cases c4 : (1 : Int32) ≤ x3 ∧ x3 ≤ 99
        · skip
          refine Or.inr (Or.inr ⟨0, 2, a 12, a 13, a 14, i 7, ?_, ?_, rfl, ⟨h1, h2, h3, h4, h5, h6, h7, h8, h9, h10, h11, h12, h13, h14, h15, h16, h17⟩⟩)
          · simp only [fn_Room_rule, pu_rsp, pu_rin, if_pos c1, if_neg c2, if_neg c3, if_pos c4, if_neg (fun hh : ¬ I 14 < 4 => hh c1)] <;> rfl
          · simp only [fn_Model_rule, e1, e2, e3, e4, pu_ml, pu_mw, pu_nle 4, pu_b1, if_pos c1, if_neg c2, if_neg c3, if_pos c4, if_neg (fun hh : ¬ I 14 < 4 => hh c1)] <;> rfl
        · skip
          refine Or.inr (Or.inr ⟨0, 2, a 12, a 13, a 14, i 7, ?_, ?_, rfl, ⟨h1, h2, h3, h4, h5, h6, h7, h8, h9, h10, h11, h12, h13, h14, h15, h16, h17⟩⟩)
          · simp only [fn_Room_rule, pu_rsp, pu_rin, if_pos c1, if_neg c2, if_neg c3, if_neg c4, if_neg (fun hh : ¬ I 14 < 4 => hh c1)] <;> rfl
          · simp only [fn_Model_rule, e1, e2, e3, e4, pu_ml, pu_mw, pu_nle 4, pu_b1, if_pos c1, if_neg c2, if_neg c3, if_neg c4, if_neg (fun hh : ¬ I 14 < 4 => hh c1)] <;> rfl
  · skip
    by_cases c2 : (0 : Int32) ≤ x1 ∧ x1 ≤ 3
    · skip
      by_cases c3 : (-60000 : Int32) ≤ x2 ∧ x2 ≤ 60000
      · skip
        by_cases c4 : (1 : Int32) ≤ x3 ∧ x3 ≤ 99
        · skip
          refine Or.inr (Or.inl ⟨0, 1, a 12, a 13, a 14, i 7, ?_, ?_, rfl, ⟨h1, h2, h3, h4, h5, h6, h7, h8, h9, h10, h11, h12, h13, h14, h15, h16, h17⟩⟩)
          · simp only [fn_Room_rule, pu_rsp, pu_rin, if_neg c1, if_pos c2, if_pos c3, if_pos c4, if_pos (c1 : ¬ I 14 < 4)] <;> rfl
          · simp only [fn_Model_rule, e1, e2, e3, e4, pu_ml, pu_mw, pu_nle 4, pu_b1, if_neg c1, if_pos c2, if_pos c3, if_pos c4, if_pos (c1 : ¬ I 14 < 4)] <;> rfl
        · skip
          refine Or.inr (Or.inl ⟨0, 1, a 12, a 13, a 14, i 7, ?_, ?_, rfl, ⟨h1, h2, h3, h4, h5, h6, h7, h8, h9, h10, h11, h12, h13, h14, h15, h16, h17⟩⟩)
          · simp only [fn_Room_rule, pu_rsp, pu_rin, if_neg c1, if_pos c2, if_pos c3, if_neg c4, if_pos (c1 : ¬ I 14 < 4)] <;> rfl
          · simp only [fn_Model_rule, e1, e2, e3, e4, pu_ml, pu_mw, pu_nle 4, pu_b1, if_neg c1, if_pos c2, if_pos c3, if_neg c4, if_pos (c1 : ¬ I 14 < 4)] <;> rfl
      · skip
        by_cases c4 : (1 : Int32) ≤ x3 ∧ x3 ≤ 99
        · skip
          refine Or.inr (Or.inl ⟨0, 1, a 12, a 13, a 14, i 7, ?_, ?_, rfl, ⟨h1, h2, h3, h4, h5, h6, h7, h8, h9, h10, h11, h12, h13, h14, h15, h16, h17⟩⟩)
          · simp only [fn_Room_rule, pu_rsp, pu_rin, if_neg c1, if_pos c2, if_neg c3, if_pos c4, if_pos (c1 : ¬ I 14 < 4)] <;> rfl
          · simp only [fn_Model_rule, e1, e2, e3, e4, pu_ml, pu_mw, pu_nle 4, pu_b1, if_neg c1, if_pos c2, if_neg c3, if_pos c4, if_pos (c1 : ¬ I 14 < 4)] <;> rfl
        · skip
          refine Or.inr (Or.inl ⟨0, 1, a 12, a 13, a 14, i 7, ?_, ?_, rfl, ⟨h1, h2, h3, h4, h5, h6, h7, h8, h9, h10, h11, h12, h13, h14, h15, h16, h17⟩⟩)
          · simp only [fn_Room_rule, pu_rsp, pu_rin, if_neg c1, if_pos c2, if_neg c3, if_neg c4, if_pos (c1 : ¬ I 14 < 4)] <;> rfl
          · simp only [fn_Model_rule, e1, e2, e3, e4, pu_ml, pu_mw, pu_nle 4, pu_b1, if_neg c1, if_pos c2, if_neg c3, if_neg c4, if_pos (c1 : ¬ I 14 < 4)] <;> rfl
    · skip
      by_cases c3 : (-60000 : Int32) ≤ x2 ∧ x2 ≤ 60000
      · skip
        by_cases c4 : (1 : Int32) ≤ x3 ∧ x3 ≤ 99
        · skip
          refine Or.inr (Or.inl ⟨0, 1, a 12, a 13, a 14, i 7, ?_, ?_, rfl, ⟨h1, h2, h3, h4, h5, h6, h7, h8, h9, h10, h11, h12, h13, h14, h15, h16, h17⟩⟩)
          · simp only [fn_Room_rule, pu_rsp, pu_rin, if_neg c1, if_neg c2, if_pos c3, if_pos c4, if_pos (c1 : ¬ I 14 < 4)] <;> rfl
          · simp only [fn_Model_rule, e1, e2, e3, e4, pu_ml, pu_mw, pu_nle 4, pu_b1, if_neg c1, if_neg c2, if_pos c3, if_pos c4, if_pos (c1 : ¬ I 14 < 4)] <;> rfl
        · skip
          refine Or.inr (Or.inl ⟨0, 1, a 12, a 13, a 14, i 7, ?_, ?_, rfl, ⟨h1, h2, h3, h4, h5, h6, h7, h8, h9, h10, h11, h12, h13, h14, h15, h16, h17⟩⟩)
          · simp only [fn_Room_rule, pu_rsp, pu_rin, if_neg c1, if_neg c2, if_pos c3, if_neg c4, if_pos (c1 : ¬ I 14 < 4)] <;> rfl
          · simp only [fn_Model_rule, e1, e2, e3, e4, pu_ml, pu_mw, pu_nle 4, pu_b1, if_neg c1, if_neg c2, if_pos c3, if_neg c4, if_pos (c1 : ¬ I 14 < 4)] <;> rfl
      · skip
        by_cases c4 : (1 : Int32) ≤ x3 ∧ x3 ≤ 99
        · skip
          refine Or.inr (Or.inl ⟨0, 1, a 12, a 13, a 14, i 7, ?_, ?_, rfl, ⟨h1, h2, h3, h4, h5, h6, h7, h8, h9, h10, h11, h12, h13, h14, h15, h16, h17⟩⟩)
          · simp only [fn_Room_rule, pu_rsp, pu_rin, if_neg c1, if_neg c2, if_neg c3, if_pos c4, if_pos (c1 : ¬ I 14 < 4)] <;> rfl
          · simp only [fn_Model_rule, e1, e2, e3, e4, pu_ml, pu_mw, pu_nle 4, pu_b1, if_neg c1, if_neg c2, if_neg c3, if_pos c4, if_pos (c1 : ¬ I 14 < 4)] <;> rfl
        · skip
          refine Or.inr (Or.inl ⟨0, 1, a 12, a 13, a 14, i 7, ?_, ?_, rfl, ⟨h1, h2, h3, h4, h5, h6, h7, h8, h9, h10, h11, h12, h13, h14, h15, h16, h17⟩⟩)
          · simp only [fn_Room_rule, pu_rsp, pu_rin, if_neg c1, if_neg c2, if_neg c3, if_neg c4, if_pos (c1 : ¬ I 14 < 4)] <;> rfl
          · simp only [fn_Model_rule, e1, e2, e3, e4, pu_ml, pu_mw, pu_nle 4, pu_b1, if_neg c1, if_neg c2, if_neg c3, if_neg c4, if_pos (c1 : ¬ I 14 < 4)] <;> rfl
theorem ps_sensor {I : Nat → Int32} {J : Nat → Int64} {A : Nat → Nat → Int32} {L : Nat → Nat → Int64} {i : Nat → Int32} {a : Nat → Nat → Int32} {l9 : Nat → Nat → Int64} (h : pu_Rel I J A L i a l9) (o : Nat → Int64) (x1 x2 : Int32) : st_sensor pu_Rel I J A L i a l9 o x1 x2 := by
  obtain ⟨h1, h2, h3, h4, h5, h6, h7, h8, h9, h10, h11, h12, h13, h14, h15, h16, h17⟩ := h
  unfold st_sensor
  obtain ⟨e1, e2, e3, b0, b3, b4, b5, b6, b7⟩ := h17
  have h17 : pu_Rgau (I 0) (I 15) (A 33) (A 34) (A 35) (A 36) (i 6) (a 17) (a 18) (a 19) := ⟨e1, e2, e3, b0, b3, b4, b5, b6, b7⟩
  by_cases c1 : 0 ≤ x1 ∧ x1 < I 0
  · skip
    by_cases c2 : (-100000 : Int32) ≤ x2 ∧ x2 ≤ 100000
    · skip
      obtain ⟨g0, g1, g2⟩ := pu_nn c1
      have ix : gx_ix x1 300 = true := pu_ix g0 (by omega)
      refine Or.inl ⟨upd (A 33) x1.toNatClampNeg x2, upd (A 34) x1.toNatClampNeg 1, 0, upd (a 17) x1.toNatClampNeg x2, ?_, ?_, rfl, trivial, ⟨h1, h2, h3, h4, h5, h6, h7, h8, h9, h10, h11, h12, h13, h14, h15, h16, ⟨e1, e2, e3, b0, b3, ?_, ?_, ?_, b7⟩⟩⟩
      · simp only [fn_Law_sensor, fn_Room_sensor, fn_Gauge_sense, pu_rix, pu_rin, if_pos ix, if_pos c1, if_pos c2] <;> rfl
      · simp only [fn_Model_sensor, e1, pu_mwh b0, pu_mw, pu_b1, if_pos ix, if_pos c1, if_pos c2] <;> rfl
      · intro j hj
        show upd (a 17) x1.toNatClampNeg x2 j = if upd (A 34) x1.toNatClampNeg 1 j = 0 then -200000 else upd (A 33) x1.toNatClampNeg x2 j
        by_cases hq : j = x1.toNatClampNeg
        · rw [hq, pk_us, pk_us, pk_us, if_neg pu_n0]
        · rw [pk_un hq, pk_un hq, pk_un hq]
          exact b4 j hj
      · intro j hj hs
        have hs : upd (A 34) x1.toNatClampNeg 1 j ≠ 0 := hs
        show -100000 ≤ (upd (A 33) x1.toNatClampNeg x2 j).toInt ∧ (upd (A 33) x1.toNatClampNeg x2 j).toInt ≤ 100000
        by_cases hq : j = x1.toNatClampNeg
        · rw [hq, pk_us]
          exact ⟨Int32.le_iff_toInt_le.1 c2.1, Int32.le_iff_toInt_le.1 c2.2⟩
        · rw [pk_un hq] at hs
          rw [pk_un hq]
          exact b5 j hj hs
      · intro j hj hk
        obtain ⟨k1, k2⟩ := b6 j hj hk
        refine ⟨?_, k2⟩
        show upd (A 34) x1.toNatClampNeg 1 j ≠ 0
        by_cases hq : j = x1.toNatClampNeg
        · rw [hq, pk_us]
          exact pu_n0
        · rw [pk_un hq]
          exact k1
    · skip
      refine Or.inr (Or.inr ⟨2, a 17, ?_, ?_, rfl, ⟨h1, h2, h3, h4, h5, h6, h7, h8, h9, h10, h11, h12, h13, h14, h15, h16, h17⟩⟩)
      · simp only [fn_Room_sensor, pu_rix, pu_rin, if_pos c1, if_neg c2] <;> rfl
      · simp only [fn_Model_sensor, e1, pu_mwh b0, pu_mw, pu_b1, if_pos c1, if_neg c2] <;> rfl
  · skip
    by_cases c2 : (-100000 : Int32) ≤ x2 ∧ x2 ≤ 100000
    · skip
      refine Or.inr (Or.inl ⟨1, a 17, ?_, ?_, rfl, ⟨h1, h2, h3, h4, h5, h6, h7, h8, h9, h10, h11, h12, h13, h14, h15, h16, h17⟩⟩)
      · simp only [fn_Room_sensor, pu_rix, pu_rin, if_neg c1, if_pos c2] <;> rfl
      · simp only [fn_Model_sensor, e1, pu_mwh b0, pu_mw, pu_b1, if_neg c1, if_pos c2] <;> rfl
    · skip
      refine Or.inr (Or.inl ⟨1, a 17, ?_, ?_, rfl, ⟨h1, h2, h3, h4, h5, h6, h7, h8, h9, h10, h11, h12, h13, h14, h15, h16, h17⟩⟩)
      · simp only [fn_Room_sensor, pu_rix, pu_rin, if_neg c1, if_neg c2] <;> rfl
      · simp only [fn_Model_sensor, e1, pu_mwh b0, pu_mw, pu_b1, if_neg c1, if_neg c2] <;> rfl
theorem ps_on {I : Nat → Int32} {J : Nat → Int64} {A : Nat → Nat → Int32} {L : Nat → Nat → Int64} {i : Nat → Int32} {a : Nat → Nat → Int32} {l9 : Nat → Nat → Int64} (h : pu_Rel I J A L i a l9) (o : Nat → Int64) (x1 : Int32) : st_on pu_Rel I J A L i a l9 o x1 := by
  obtain ⟨h1, h2, h3, h4, h5, h6, h7, h8, h9, h10, h11, h12, h13, h14, h15, h16, h17⟩ := h
  unfold st_on
  obtain ⟨m1, m2, m3, m4, m5⟩ := h4
  have h4 : pu_Rmach (A 4) (A 5) (A 6) (A 7) (A 8) (a 4) (a 5) (a 6) (a 7) := ⟨m1, m2, m3, m4, m5⟩
  by_cases c1 : 0 ≤ x1 ∧ x1 < 4
  · skip
    obtain ⟨g0, g1, g2⟩ := pu_nn c1
    have g1 : x1.toInt < 4 := g1
    have ix : gx_ix x1 4 = true := pu_ix g0 g1
    have e8 := pu_a3 (k := x1) (n := 8) 8 rfl (by omega) g0 (by omega)
    have ix2 : gx_ix (8 + x1) 12 = true := pu_ix (by omega) (by omega)
    have n8 : l9 0 (8 + x1).toNatClampNeg = (A 8 x1.toNatClampNeg).toInt64 := by
      rw [e8.2]
      exact h5.2.2.2.2 _ (by omega)
    rcases (m5 x1.toNatClampNeg (by omega)).1 with q | q
    · refine Or.inl ⟨vp_updL o (0 : Int32).toNatClampNeg 0, 0, 0, ?_, ?_, rfl, ⟨fun _ => (lg_cmp_eq _ _).2 pk_uLs, fun hh => absurd rfl hh⟩, ⟨h1, h2, h3, h4, h5, h6, h7, h8, h9, h10, h11, h12, h13, h14, h15, h16, h17⟩⟩
      · simp only [fn_Law_on, fn_Room_on, pu_rix, if_pos ix, q, if_pos c1] <;> rfl
      · simp only [fn_Model_on, pu_mw, pu_le3, pu_b1, if_pos ix2, n8, q, if_pos c1] <;> rfl
    · refine Or.inl ⟨vp_updL o (0 : Int32).toNatClampNeg 1, 1, 0, ?_, ?_, rfl, ⟨fun hh => absurd hh pu_n0, fun _ => (lg_cmp_eq _ _).2 pk_uLs⟩, ⟨h1, h2, h3, h4, h5, h6, h7, h8, h9, h10, h11, h12, h13, h14, h15, h16, h17⟩⟩
      · simp only [fn_Law_on, fn_Room_on, pu_rix, if_pos ix, q, if_pos c1] <;> rfl
      · simp only [fn_Model_on, pu_mw, pu_le3, pu_b1, if_pos ix2, n8, q, if_pos c1] <;> rfl
  · skip
    refine Or.inr ⟨0, 1, ?_, ?_, rfl, ⟨h1, h2, h3, h4, h5, h6, h7, h8, h9, h10, h11, h12, h13, h14, h15, h16, h17⟩⟩
    · simp only [fn_Room_on, pu_rix, if_neg c1] <;> rfl
    · simp only [fn_Model_on, pu_mw, pu_le3, pu_b1, if_neg c1] <;> rfl
