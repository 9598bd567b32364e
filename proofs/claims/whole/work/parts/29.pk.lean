theorem ps_check {I : Nat → Int32} {J : Nat → Int64} {A : Nat → Nat → Int32} {L : Nat → Nat → Int64} {i : Nat → Int32} {a : Nat → Nat → Int32} {l9 : Nat → Nat → Int64} (h : pu_Rel I J A L i a l9) (o : Nat → Int64) (x1 x2 : Int32) : st_check pu_Rel I J A L i a l9 o x1 x2 := by
  obtain ⟨h1, h2, h3, h4, h5, h6, h7, h8, h9, h10, h11, h12, h13, h14, h15, h16, h17⟩ := h
  unfold st_check
  obtain ⟨e1, e2, e3, b0, b3, b4, b5, b6, b7⟩ := h17
  have h17 : pu_Rgau (I 0) (I 15) (A 33) (A 34) (A 35) (A 36) (i 6) (a 17) (a 18) (a 19) := ⟨e1, e2, e3, b0, b3, b4, b5, b6, b7⟩
  by_cases c1 : 0 ≤ x1 ∧ x1 < I 0
  · skip
    by_cases c2 : ¬ A 34 x1.toNatClampNeg = 0
    · skip
      by_cases c3 : (-100000 : Int32) ≤ x2 ∧ x2 ≤ 100000
      · skip
        obtain ⟨g0, g1, g2⟩ := pu_nn c1
        have ix : gx_ix x1 300 = true := pu_ix g0 (by omega)
        have hv := b4 x1.toNatClampNeg (by omega)
        rw [if_neg c2] at hv
        have hq := b5 x1.toNatClampNeg (by omega) c2
        have nv : ¬ a 17 x1.toNatClampNeg = -200000 := by
          intro hh
          rw [hv] at hh
          rw [hh] at hq
          exact absurd hq.1 (by decide)
        have hR1 : (if A 36 x1.toNatClampNeg = 0 then I 15 + 1 else I 15) = pu_cnt (upd (A 36) x1.toNatClampNeg 1) (I 0).toNatClampNeg := by
          have t : (I 0).toNatClampNeg = (I 0).toInt.toNat := rfl
          rw [pu_cnt_lt _ _ _ (by omega), ← b7]
        refine Or.inl ⟨(if A 36 x1.toNatClampNeg = 0 then I 15 + 1 else I 15), upd (A 35) x1.toNatClampNeg x2, upd (A 36) x1.toNatClampNeg 1, 0, upd (A 36) x1.toNatClampNeg 1, upd (A 35) x1.toNatClampNeg x2, ?_, ?_, rfl, trivial, ⟨h1, h2, h3, h4, h5, h6, h7, h8, h9, h10, h11, h12, h13, h14, h15, h16, ⟨e1, rfl, rfl, b0, b3, b4, b5, ?_, hR1⟩⟩⟩
        · simp only [fn_Law_check, fn_Room_check, fn_Gauge_compare, pu_rix, pu_rin, if_pos c1, if_neg c2, if_pos c3, if_pos ix, if_neg nv]
          by_cases c9 : A 36 x1.toNatClampNeg = 0
          · simp only [if_pos c9] <;> rfl
          · simp only [if_neg c9] <;> rfl
        · simp only [fn_Model_check, e1, e2, e3, pu_mwh b0, pu_mw, pu_b1, if_pos c1, if_neg c2, if_pos c3, if_pos ix, if_neg nv] <;> rfl
        · intro j hj hk
          have hk : upd (A 36) x1.toNatClampNeg 1 j ≠ 0 := hk
          show A 34 j ≠ 0 ∧ (j : Int) < (I 0).toInt ∧ -100000 ≤ (upd (A 35) x1.toNatClampNeg x2 j).toInt ∧ (upd (A 35) x1.toNatClampNeg x2 j).toInt ≤ 100000
          by_cases hq9 : j = x1.toNatClampNeg
          · rw [hq9, pk_us]
            exact ⟨c2, by omega, Int32.le_iff_toInt_le.1 c3.1, Int32.le_iff_toInt_le.1 c3.2⟩
          · rw [pk_un hq9] at hk
            rw [pk_un hq9]
            exact b6 j hj hk
      · skip
        obtain ⟨g0, g1, g2⟩ := pu_nn c1
        have ix : gx_ix x1 300 = true := pu_ix g0 (by omega)
        have hv := b4 x1.toNatClampNeg (by omega)
        rw [if_neg c2] at hv
        have hq := b5 x1.toNatClampNeg (by omega) c2
        have nv : ¬ a 17 x1.toNatClampNeg = -200000 := by
          intro hh
          rw [hv] at hh
          rw [hh] at hq
          exact absurd hq.1 (by decide)
        refine Or.inr (Or.inr (Or.inr ⟨3, a 18, a 19, ?_, ?_, rfl, ⟨h1, h2, h3, h4, h5, h6, h7, h8, h9, h10, h11, h12, h13, h14, h15, h16, h17⟩⟩))
        · simp only [fn_Room_check, pu_rix, pu_rin, if_pos c1, if_neg c2, if_neg c3, if_pos ix, if_neg nv] <;> rfl
        · simp only [fn_Model_check, e1, e2, e3, pu_mwh b0, pu_mw, pu_b1, if_pos c1, if_neg c2, if_neg c3, if_pos ix, if_neg nv] <;> rfl
    · skip
      by_cases c3 : (-100000 : Int32) ≤ x2 ∧ x2 ≤ 100000
      · skip
        obtain ⟨g0, g1, g2⟩ := pu_nn c1
        have ix : gx_ix x1 300 = true := pu_ix g0 (by omega)
        have hv := b4 x1.toNatClampNeg (by omega)
        have c2 : A 34 x1.toNatClampNeg = 0 := Classical.byContradiction c2
        rw [if_pos c2] at hv
        refine Or.inr (Or.inr (Or.inl ⟨2, a 18, a 19, ?_, ?_, rfl, ⟨h1, h2, h3, h4, h5, h6, h7, h8, h9, h10, h11, h12, h13, h14, h15, h16, h17⟩⟩))
        · simp only [fn_Room_check, pu_rix, pu_rin, if_pos c1, if_pos c2, if_pos c3, if_pos ix, if_pos hv] <;> rfl
        · simp only [fn_Model_check, e1, e2, e3, pu_mwh b0, pu_mw, pu_b1, if_pos c1, if_pos c2, if_pos c3, if_pos ix, if_pos hv] <;> rfl
      · skip
        obtain ⟨g0, g1, g2⟩ := pu_nn c1
        have ix : gx_ix x1 300 = true := pu_ix g0 (by omega)
        have hv := b4 x1.toNatClampNeg (by omega)
        have c2 : A 34 x1.toNatClampNeg = 0 := Classical.byContradiction c2
        rw [if_pos c2] at hv
        refine Or.inr (Or.inr (Or.inl ⟨2, a 18, a 19, ?_, ?_, rfl, ⟨h1, h2, h3, h4, h5, h6, h7, h8, h9, h10, h11, h12, h13, h14, h15, h16, h17⟩⟩))
        · simp only [fn_Room_check, pu_rix, pu_rin, if_pos c1, if_pos c2, if_neg c3, if_pos ix, if_pos hv] <;> rfl
        · simp only [fn_Model_check, e1, e2, e3, pu_mwh b0, pu_mw, pu_b1, if_pos c1, if_pos c2, if_neg c3, if_pos ix, if_pos hv] <;> rfl
  · skip
    by_cases c2 : ¬ A 34 x1.toNatClampNeg = 0
    · skip
      by_cases c3 : (-100000 : Int32) ≤ x2 ∧ x2 ≤ 100000
      · skip
        refine Or.inr (Or.inl ⟨1, a 18, a 19, ?_, ?_, rfl, ⟨h1, h2, h3, h4, h5, h6, h7, h8, h9, h10, h11, h12, h13, h14, h15, h16, h17⟩⟩)
        · simp only [fn_Room_check, pu_rix, pu_rin, if_neg c1, if_pos c2, if_pos c3] <;> rfl
        · simp only [fn_Model_check, e1, e2, e3, pu_mwh b0, pu_mw, pu_b1, if_neg c1, if_pos c2, if_pos c3] <;> rfl
      · skip
        refine Or.inr (Or.inl ⟨1, a 18, a 19, ?_, ?_, rfl, ⟨h1, h2, h3, h4, h5, h6, h7, h8, h9, h10, h11, h12, h13, h14, h15, h16, h17⟩⟩)
        · simp only [fn_Room_check, pu_rix, pu_rin, if_neg c1, if_pos c2, if_neg c3] <;> rfl
        · simp only [fn_Model_check, e1, e2, e3, pu_mwh b0, pu_mw, pu_b1, if_neg c1, if_pos c2, if_neg c3] <;> rfl
    · skip
      by_cases c3 : (-100000 : Int32) ≤ x2 ∧ x2 ≤ 100000
      · skip
        refine Or.inr (Or.inl ⟨1, a 18, a 19, ?_, ?_, rfl, ⟨h1, h2, h3, h4, h5, h6, h7, h8, h9, h10, h11, h12, h13, h14, h15, h16, h17⟩⟩)
        · simp only [fn_Room_check, pu_rix, pu_rin, if_neg c1, if_neg c2, if_pos c3] <;> rfl
        · simp only [fn_Model_check, e1, e2, e3, pu_mwh b0, pu_mw, pu_b1, if_neg c1, if_neg c2, if_pos c3] <;> rfl
      · skip
        refine Or.inr (Or.inl ⟨1, a 18, a 19, ?_, ?_, rfl, ⟨h1, h2, h3, h4, h5, h6, h7, h8, h9, h10, h11, h12, h13, h14, h15, h16, h17⟩⟩)
        · simp only [fn_Room_check, pu_rix, pu_rin, if_neg c1, if_neg c2, if_neg c3] <;> rfl
        · simp only [fn_Model_check, e1, e2, e3, pu_mwh b0, pu_mw, pu_b1, if_neg c1, if_neg c2, if_neg c3] <;> rfl
theorem ps_machine {I : Nat → Int32} {J : Nat → Int64} {A : Nat → Nat → Int32} {L : Nat → Nat → Int64} {i : Nat → Int32} {a : Nat → Nat → Int32} {l9 : Nat → Nat → Int64} (h : pu_Rel I J A L i a l9) (o : Nat → Int64) (x1 x2 x3 x4 : Int32) : st_machine pu_Rel I J A L i a l9 o x1 x2 x3 x4 := by
  obtain ⟨h1, h2, h3, h4, h5, h6, h7, h8, h9, h10, h11, h12, h13, h14, h15, h16, h17⟩ := h
  unfold st_machine
  obtain ⟨m1, m2, m3, m4, m5⟩ := h4
  have h4 : pu_Rmach (A 4) (A 5) (A 6) (A 7) (A 8) (a 4) (a 5) (a 6) (a 7) := ⟨m1, m2, m3, m4, m5⟩
  by_cases c1 : 0 ≤ x1 ∧ x1 < 4
  · skip
    by_cases c2 : (-60000 : Int32) ≤ x2 ∧ x2 ≤ 60000
    · skip
      by_cases l3 : (-60000 : Int32) ≤ x3 ∧ x3 ≤ 60000
      · skip
        by_cases n3 : x2 ≤ x3
        · skip
          by_cases c4 : (0 : Int32) ≤ x4 ∧ x4 ≤ 100000
          · skip
            obtain ⟨g0, g1, g2⟩ := pu_nn c1
            have g1 : x1.toInt < 4 := g1
            have ix : gx_ix x1 4 = true := pu_ix g0 g1
            have e8 := pu_a3 (k := x1) (n := 8) 8 rfl (by omega) g0 (by omega)
            have ix2 : gx_ix (8 + x1) 12 = true := pu_ix (by omega) (by omega)
            refine Or.inl ⟨upd (A 4) x1.toNatClampNeg x2, upd (A 5) x1.toNatClampNeg x3, upd (A 6) x1.toNatClampNeg x4, upd (A 7) x1.toNatClampNeg 1, upd (A 8) x1.toNatClampNeg 0, 0, upd (A 7) x1.toNatClampNeg 1, upd (A 4) x1.toNatClampNeg x2, upd (A 5) x1.toNatClampNeg x3, upd (A 6) x1.toNatClampNeg x4, vp_updL (l9 0) (8 + x1).toNatClampNeg 0, ?_, ?_, rfl, trivial, ⟨h1, h2, h3, ⟨rfl, rfl, rfl, rfl, ?_⟩, ⟨?_, ?_, ?_, ?_, ?_⟩, h6, h7, h8, h9, h10, h11, h12, h13, h14, h15, h16, h17⟩⟩
            · simp only [fn_Law_machine, fn_Room_machine, fn_Machines_install, pu_rix, pu_rin, if_pos ix, if_pos c1, if_pos c2, if_pos l3, if_pos n3, if_pos c4, if_neg (fun hh : x3 < x2 => absurd hh (Int32.not_lt.2 n3)), if_pos (⟨n3, l3.2⟩ : x2 ≤ x3 ∧ x3 ≤ 60000)] <;> rfl
            · simp only [fn_Model_machine, m1, m2, m3, m4, pu_ml, pu_mw, pu_le3, pu_b1, if_pos ix, if_pos ix2, if_pos c1, if_pos c2, if_pos l3, if_pos n3, if_pos c4, if_neg (fun hh : x3 < x2 => absurd hh (Int32.not_lt.2 n3)), if_pos (⟨n3, l3.2⟩ : x2 ≤ x3 ∧ x3 ≤ 60000)] <;> rfl
            · intro k hk
              show (upd (A 8) x1.toNatClampNeg 0 k = 0 ∨ upd (A 8) x1.toNatClampNeg 0 k = 1) ∧ (upd (A 7) x1.toNatClampNeg 1 k = 0 → upd (A 8) x1.toNatClampNeg 0 k = 0) ∧ (upd (A 7) x1.toNatClampNeg 1 k ≠ 0 → upd (A 4) x1.toNatClampNeg x2 k ≤ upd (A 5) x1.toNatClampNeg x3 k) ∧ 0 ≤ (upd (A 6) x1.toNatClampNeg x4 k).toInt ∧ (upd (A 6) x1.toNatClampNeg x4 k).toInt ≤ 100000
              by_cases hq : k = x1.toNatClampNeg
              · rw [hq, pk_us, pk_us, pk_us, pk_us, pk_us]
                exact ⟨Or.inl rfl, fun _ => rfl, fun _ => n3, Int32.le_iff_toInt_le.1 c4.1, Int32.le_iff_toInt_le.1 c4.2⟩
              · rw [pk_un hq, pk_un hq, pk_un hq, pk_un hq, pk_un hq]
                exact m5 k hk
            · show vp_updL (l9 0) (8 + x1).toNatClampNeg 0 0 = _
              rw [pk_uLn (by omega)]
              exact h5.1
            · show vp_updL (l9 0) (8 + x1).toNatClampNeg 0 1 = _
              rw [pk_uLn (by omega)]
              exact h5.2.1
            · show vp_updL (l9 0) (8 + x1).toNatClampNeg 0 2 = _
              rw [pk_uLn (by omega)]
              exact h5.2.2.1
            · intro k hk
              show vp_updL (l9 0) (8 + x1).toNatClampNeg 0 (3 + k) = _
              rw [pk_uLn (by omega)]
              exact h5.2.2.2.1 k hk
            · intro k hk
              show vp_updL (l9 0) (8 + x1).toNatClampNeg 0 (8 + k) = (upd (A 8) x1.toNatClampNeg 0 k).toInt64
              by_cases hq : k = x1.toNatClampNeg
              · rw [e8.2, hq, pk_uLs, pk_us]
                rfl
              · rw [pk_uLn (by omega), pk_un hq]
                exact h5.2.2.2.2 k hk
          · skip
            refine Or.inr (Or.inr ⟨2, a 4, a 5, a 6, a 7, l9 0, ?_, ?_, rfl, ⟨h1, h2, h3, h4, h5, h6, h7, h8, h9, h10, h11, h12, h13, h14, h15, h16, h17⟩⟩)
            · simp only [fn_Room_machine, pu_rix, pu_rin, if_pos c1, if_pos c2, if_pos l3, if_pos n3, if_neg c4, if_neg (fun hh : x3 < x2 => absurd hh (Int32.not_lt.2 n3)), if_pos (⟨n3, l3.2⟩ : x2 ≤ x3 ∧ x3 ≤ 60000)] <;> rfl
            · simp only [fn_Model_machine, m1, m2, m3, m4, pu_ml, pu_mw, pu_le3, pu_b1, if_pos c1, if_pos c2, if_pos l3, if_pos n3, if_neg c4, if_neg (fun hh : x3 < x2 => absurd hh (Int32.not_lt.2 n3)), if_pos (⟨n3, l3.2⟩ : x2 ≤ x3 ∧ x3 ≤ 60000)] <;> rfl
        · skip
          by_cases c4 : (0 : Int32) ≤ x4 ∧ x4 ≤ 100000
          · skip
            refine Or.inr (Or.inr ⟨2, a 4, a 5, a 6, a 7, l9 0, ?_, ?_, rfl, ⟨h1, h2, h3, h4, h5, h6, h7, h8, h9, h10, h11, h12, h13, h14, h15, h16, h17⟩⟩)
            · simp only [fn_Room_machine, pu_rix, pu_rin, if_pos c1, if_pos c2, if_pos l3, if_neg n3, if_pos c4, if_pos (Int32.not_le.1 n3), if_neg (fun hh : x2 ≤ x3 ∧ x3 ≤ 60000 => n3 hh.1)] <;> rfl
            · simp only [fn_Model_machine, m1, m2, m3, m4, pu_ml, pu_mw, pu_le3, pu_b1, if_pos c1, if_pos c2, if_pos l3, if_neg n3, if_pos c4, if_pos (Int32.not_le.1 n3), if_neg (fun hh : x2 ≤ x3 ∧ x3 ≤ 60000 => n3 hh.1)] <;> rfl
          · skip
            refine Or.inr (Or.inr ⟨2, a 4, a 5, a 6, a 7, l9 0, ?_, ?_, rfl, ⟨h1, h2, h3, h4, h5, h6, h7, h8, h9, h10, h11, h12, h13, h14, h15, h16, h17⟩⟩)
            · simp only [fn_Room_machine, pu_rix, pu_rin, if_pos c1, if_pos c2, if_pos l3, if_neg n3, if_neg c4, if_pos (Int32.not_le.1 n3), if_neg (fun hh : x2 ≤ x3 ∧ x3 ≤ 60000 => n3 hh.1)] <;> rfl
            · simp only [fn_Model_machine, m1, m2, m3, m4, pu_ml, pu_mw, pu_le3, pu_b1, if_pos c1, if_pos c2, if_pos l3, if_neg n3, if_neg c4, if_pos (Int32.not_le.1 n3), if_neg (fun hh : x2 ≤ x3 ∧ x3 ≤ 60000 => n3 hh.1)] <;> rfl
      · skip
        by_cases n3 : x2 ≤ x3
        · skip
          by_cases c4 : (0 : Int32) ≤ x4 ∧ x4 ≤ 100000
          · skip
            refine Or.inr (Or.inr ⟨2, a 4, a 5, a 6, a 7, l9 0, ?_, ?_, rfl, ⟨h1, h2, h3, h4, h5, h6, h7, h8, h9, h10, h11, h12, h13, h14, h15, h16, h17⟩⟩)
            · simp only [fn_Room_machine, pu_rix, pu_rin, if_pos c1, if_pos c2, if_neg l3, if_pos n3, if_pos c4, if_neg (fun hh : x3 < x2 => absurd hh (Int32.not_lt.2 n3)), if_neg (fun hh : x2 ≤ x3 ∧ x3 ≤ 60000 => l3 ⟨Int32.le_trans c2.1 n3, hh.2⟩)] <;> rfl
            · simp only [fn_Model_machine, m1, m2, m3, m4, pu_ml, pu_mw, pu_le3, pu_b1, if_pos c1, if_pos c2, if_neg l3, if_pos n3, if_pos c4, if_neg (fun hh : x3 < x2 => absurd hh (Int32.not_lt.2 n3)), if_neg (fun hh : x2 ≤ x3 ∧ x3 ≤ 60000 => l3 ⟨Int32.le_trans c2.1 n3, hh.2⟩)] <;> rfl
          · skip
            refine Or.inr (Or.inr ⟨2, a 4, a 5, a 6, a 7, l9 0, ?_, ?_, rfl, ⟨h1, h2, h3, h4, h5, h6, h7, h8, h9, h10, h11, h12, h13, h14, h15, h16, h17⟩⟩)
            · simp only [fn_Room_machine, pu_rix, pu_rin, if_pos c1, if_pos c2, if_neg l3, if_pos n3, if_neg c4, if_neg (fun hh : x3 < x2 => absurd hh (Int32.not_lt.2 n3)), if_neg (fun hh : x2 ≤ x3 ∧ x3 ≤ 60000 => l3 ⟨Int32.le_trans c2.1 n3, hh.2⟩)] <;> rfl
            · simp only [fn_Model_machine, m1, m2, m3, m4, pu_ml, pu_mw, pu_le3, pu_b1, if_pos c1, if_pos c2, if_neg l3, if_pos n3, if_neg c4, if_neg (fun hh : x3 < x2 => absurd hh (Int32.not_lt.2 n3)), if_neg (fun hh : x2 ≤ x3 ∧ x3 ≤ 60000 => l3 ⟨Int32.le_trans c2.1 n3, hh.2⟩)] <;> rfl
        · skip
          by_cases c4 : (0 : Int32) ≤ x4 ∧ x4 ≤ 100000
          · skip
            refine Or.inr (Or.inr ⟨2, a 4, a 5, a 6, a 7, l9 0, ?_, ?_, rfl, ⟨h1, h2, h3, h4, h5, h6, h7, h8, h9, h10, h11, h12, h13, h14, h15, h16, h17⟩⟩)
            · simp only [fn_Room_machine, pu_rix, pu_rin, if_pos c1, if_pos c2, if_neg l3, if_neg n3, if_pos c4, if_pos (Int32.not_le.1 n3), if_neg (fun hh : x2 ≤ x3 ∧ x3 ≤ 60000 => n3 hh.1)] <;> rfl
            · simp only [fn_Model_machine, m1, m2, m3, m4, pu_ml, pu_mw, pu_le3, pu_b1, if_pos c1, if_pos c2, if_neg l3, if_neg n3, if_pos c4, if_pos (Int32.not_le.1 n3), if_neg (fun hh : x2 ≤ x3 ∧ x3 ≤ 60000 => n3 hh.1)] <;> rfl
          · skip
            refine Or.inr (Or.inr ⟨2, a 4, a 5, a 6, a 7, l9 0, ?_, ?_, rfl, ⟨h1, h2, h3, h4, h5, h6, h7, h8, h9, h10, h11, h12, h13, h14, h15, h16, h17⟩⟩)
            · simp only [fn_Room_machine, pu_rix, pu_rin, if_pos c1, if_pos c2, if_neg l3, if_neg n3, if_neg c4, if_pos (Int32.not_le.1 n3), if_neg (fun hh : x2 ≤ x3 ∧ x3 ≤ 60000 => n3 hh.1)] <;> rfl
            · simp only [fn_Model_machine, m1, m2, m3, m4, pu_ml, pu_mw, pu_le3, pu_b1, if_pos c1, if_pos c2, if_neg l3, if_neg n3, if_neg c4, if_pos (Int32.not_le.1 n3), if_neg (fun hh : x2 ≤ x3 ∧ x3 ≤ 60000 => n3 hh.1)] <;> rfl
    · skip
      by_cases l3 : (-60000 : Int32) ≤ x3 ∧ x3 ≤ 60000
      · skip
        by_cases n3 : x2 ≤ x3
        · skip
          by_cases c4 : (0 : Int32) ≤ x4 ∧ x4 ≤ 100000
          · skip
            refine Or.inr (Or.inr ⟨2, a 4, a 5, a 6, a 7, l9 0, ?_, ?_, rfl, ⟨h1, h2, h3, h4, h5, h6, h7, h8, h9, h10, h11, h12, h13, h14, h15, h16, h17⟩⟩)
            · simp only [fn_Room_machine, pu_rix, pu_rin, if_pos c1, if_neg c2, if_pos l3, if_pos n3, if_pos c4, if_neg (fun hh : x3 < x2 => absurd hh (Int32.not_lt.2 n3)), if_pos (⟨n3, l3.2⟩ : x2 ≤ x3 ∧ x3 ≤ 60000)] <;> rfl
            · simp only [fn_Model_machine, m1, m2, m3, m4, pu_ml, pu_mw, pu_le3, pu_b1, if_pos c1, if_neg c2, if_pos l3, if_pos n3, if_pos c4, if_neg (fun hh : x3 < x2 => absurd hh (Int32.not_lt.2 n3)), if_pos (⟨n3, l3.2⟩ : x2 ≤ x3 ∧ x3 ≤ 60000)] <;> rfl
          · skip
            refine Or.inr (Or.inr ⟨2, a 4, a 5, a 6, a 7, l9 0, ?_, ?_, rfl, ⟨h1, h2, h3, h4, h5, h6, h7, h8, h9, h10, h11, h12, h13, h14, h15, h16, h17⟩⟩)
            · simp only [fn_Room_machine, pu_rix, pu_rin, if_pos c1, if_neg c2, if_pos l3, if_pos n3, if_neg c4, if_neg (fun hh : x3 < x2 => absurd hh (Int32.not_lt.2 n3)), if_pos (⟨n3, l3.2⟩ : x2 ≤ x3 ∧ x3 ≤ 60000)] <;> rfl
            · simp only [fn_Model_machine, m1, m2, m3, m4, pu_ml, pu_mw, pu_le3, pu_b1, if_pos c1, if_neg c2, if_pos l3, if_pos n3, if_neg c4, if_neg (fun hh : x3 < x2 => absurd hh (Int32.not_lt.2 n3)), if_pos (⟨n3, l3.2⟩ : x2 ≤ x3 ∧ x3 ≤ 60000)] <;> rfl
        · skip
          by_cases c4 : (0 : Int32) ≤ x4 ∧ x4 ≤ 100000
          · skip
            refine Or.inr (Or.inr ⟨2, a 4, a 5, a 6, a 7, l9 0, ?_, ?_, rfl, ⟨h1, h2, h3, h4, h5, h6, h7, h8, h9, h10, h11, h12, h13, h14, h15, h16, h17⟩⟩)
            · simp only [fn_Room_machine, pu_rix, pu_rin, if_pos c1, if_neg c2, if_pos l3, if_neg n3, if_pos c4, if_pos (Int32.not_le.1 n3), if_neg (fun hh : x2 ≤ x3 ∧ x3 ≤ 60000 => n3 hh.1)] <;> rfl
            · simp only [fn_Model_machine, m1, m2, m3, m4, pu_ml, pu_mw, pu_le3, pu_b1, if_pos c1, if_neg c2, if_pos l3, if_neg n3, if_pos c4, if_pos (Int32.not_le.1 n3), if_neg (fun hh : x2 ≤ x3 ∧ x3 ≤ 60000 => n3 hh.1)] <;> rfl
          · skip
            refine Or.inr (Or.inr ⟨2, a 4, a 5, a 6, a 7, l9 0, ?_, ?_, rfl, ⟨h1, h2, h3, h4, h5, h6, h7, h8, h9, h10, h11, h12, h13, h14, h15, h16, h17⟩⟩)
            · simp only [fn_Room_machine, pu_rix, pu_rin, if_pos c1, if_neg c2, if_pos l3, if_neg n3, if_neg c4, if_pos (Int32.not_le.1 n3), if_neg (fun hh : x2 ≤ x3 ∧ x3 ≤ 60000 => n3 hh.1)] <;> rfl
            · simp only [fn_Model_machine, m1, m2, m3, m4, pu_ml, pu_mw, pu_le3, pu_b1, if_pos c1, if_neg c2, if_pos l3, if_neg n3, if_neg c4, if_pos (Int32.not_le.1 n3), if_neg (fun hh : x2 ≤ x3 ∧ x3 ≤ 60000 => n3 hh.1)] <;> rfl
      · skip
        by_cases n3 : x2 ≤ x3
        · skip
          by_cases c4 : (0 : Int32) ≤ x4 ∧ x4 ≤ 100000
          · skip
            refine Or.inr (Or.inr ⟨2, a 4, a 5, a 6, a 7, l9 0, ?_, ?_, rfl, ⟨h1, h2, h3, h4, h5, h6, h7, h8, h9, h10, h11, h12, h13, h14, h15, h16, h17⟩⟩)
            · simp only [fn_Room_machine, pu_rix, pu_rin, if_pos c1, if_neg c2, if_neg l3, if_pos n3, if_pos c4, if_neg (fun hh : x3 < x2 => absurd hh (Int32.not_lt.2 n3))] <;> rfl
            · simp only [fn_Model_machine, m1, m2, m3, m4, pu_ml, pu_mw, pu_le3, pu_b1, if_pos c1, if_neg c2, if_neg l3, if_pos n3, if_pos c4, if_neg (fun hh : x3 < x2 => absurd hh (Int32.not_lt.2 n3))] <;> rfl
          · skip
            refine Or.inr (Or.inr ⟨2, a 4, a 5, a 6, a 7, l9 0, ?_, ?_, rfl, ⟨h1, h2, h3, h4, h5, h6, h7, h8, h9, h10, h11, h12, h13, h14, h15, h16, h17⟩⟩)
            · simp only [fn_Room_machine, pu_rix, pu_rin, if_pos c1, if_neg c2, if_neg l3, if_pos n3, if_neg c4, if_neg (fun hh : x3 < x2 => absurd hh (Int32.not_lt.2 n3))] <;> rfl
            · simp only [fn_Model_machine, m1, m2, m3, m4, pu_ml, pu_mw, pu_le3, pu_b1, if_pos c1, if_neg c2, if_neg l3, if_pos n3, if_neg c4, if_neg (fun hh : x3 < x2 => absurd hh (Int32.not_lt.2 n3))] <;> rfl
        · skip
          by_cases c4 : (0 : Int32) ≤ x4 ∧ x4 ≤ 100000
          · skip
            refine Or.inr (Or.inr ⟨2, a 4, a 5, a 6, a 7, l9 0, ?_, ?_, rfl, ⟨h1, h2, h3, h4, h5, h6, h7, h8, h9, h10, h11, h12, h13, h14, h15, h16, h17⟩⟩)
            · simp only [fn_Room_machine, pu_rix, pu_rin, if_pos c1, if_neg c2, if_neg l3, if_neg n3, if_pos c4, if_pos (Int32.not_le.1 n3), if_neg (fun hh : x2 ≤ x3 ∧ x3 ≤ 60000 => n3 hh.1)] <;> rfl
            · simp only [fn_Model_machine, m1, m2, m3, m4, pu_ml, pu_mw, pu_le3, pu_b1, if_pos c1, if_neg c2, if_neg l3, if_neg n3, if_pos c4, if_pos (Int32.not_le.1 n3), if_neg (fun hh : x2 ≤ x3 ∧ x3 ≤ 60000 => n3 hh.1)] <;> rfl
          · skip
            refine Or.inr (Or.inr ⟨2, a 4, a 5, a 6, a 7, l9 0, ?_, ?_, rfl, ⟨h1, h2, h3, h4, h5, h6, h7, h8, h9, h10, h11, h12, h13, h14, h15, h16, h17⟩⟩)
            · simp only [fn_Room_machine, pu_rix, pu_rin, if_pos c1, if_neg c2, if_neg l3, if_neg n3, if_neg c4, if_pos (Int32.not_le.1 n3), if_neg (fun hh : x2 ≤ x3 ∧ x3 ≤ 60000 => n3 hh.1)] <;> rfl
            · simp only [fn_Model_machine, m1, m2, m3, m4, pu_ml, pu_mw, pu_le3, pu_b1, if_pos c1, if_neg c2, if_neg l3, if_neg n3, if_neg c4, if_pos (Int32.not_le.1 n3), if_neg (fun hh : x2 ≤ x3 ∧ x3 ≤ 60000 => n3 hh.1)] <;> rfl
  · skip
    by_cases c2 : (-60000 : Int32) ≤ x2 ∧ x2 ≤ 60000
    · skip
      by_cases l3 : (-60000 : Int32) ≤ x3 ∧ x3 ≤ 60000
      · skip
        by_cases n3 : x2 ≤ x3
        · skip
          by_cases c4 : (0 : Int32) ≤ x4 ∧ x4 ≤ 100000
          · skip
            refine Or.inr (Or.inl ⟨1, a 4, a 5, a 6, a 7, l9 0, ?_, ?_, rfl, ⟨h1, h2, h3, h4, h5, h6, h7, h8, h9, h10, h11, h12, h13, h14, h15, h16, h17⟩⟩)
            · simp only [fn_Room_machine, pu_rix, pu_rin, if_neg c1, if_pos c2, if_pos l3, if_pos n3, if_pos c4, if_neg (fun hh : x3 < x2 => absurd hh (Int32.not_lt.2 n3)), if_pos (⟨n3, l3.2⟩ : x2 ≤ x3 ∧ x3 ≤ 60000)] <;> rfl
            · simp only [fn_Model_machine, m1, m2, m3, m4, pu_ml, pu_mw, pu_le3, pu_b1, if_neg c1, if_pos c2, if_pos l3, if_pos n3, if_pos c4, if_neg (fun hh : x3 < x2 => absurd hh (Int32.not_lt.2 n3)), if_pos (⟨n3, l3.2⟩ : x2 ≤ x3 ∧ x3 ≤ 60000)] <;> rfl
          · skip
            refine Or.inr (Or.inl ⟨1, a 4, a 5, a 6, a 7, l9 0, ?_, ?_, rfl, ⟨h1, h2, h3, h4, h5, h6, h7, h8, h9, h10, h11, h12, h13, h14, h15, h16, h17⟩⟩)
            · simp only [fn_Room_machine, pu_rix, pu_rin, if_neg c1, if_pos c2, if_pos l3, if_pos n3, if_neg c4, if_neg (fun hh : x3 < x2 => absurd hh (Int32.not_lt.2 n3)), if_pos (⟨n3, l3.2⟩ : x2 ≤ x3 ∧ x3 ≤ 60000)] <;> rfl
            · simp only [fn_Model_machine, m1, m2, m3, m4, pu_ml, pu_mw, pu_le3, pu_b1, if_neg c1, if_pos c2, if_pos l3, if_pos n3, if_neg c4, if_neg (fun hh : x3 < x2 => absurd hh (Int32.not_lt.2 n3)), if_pos (⟨n3, l3.2⟩ : x2 ≤ x3 ∧ x3 ≤ 60000)] <;> rfl
        · skip
          by_cases c4 : (0 : Int32) ≤ x4 ∧ x4 ≤ 100000
          · skip
            refine Or.inr (Or.inl ⟨1, a 4, a 5, a 6, a 7, l9 0, ?_, ?_, rfl, ⟨h1, h2, h3, h4, h5, h6, h7, h8, h9, h10, h11, h12, h13, h14, h15, h16, h17⟩⟩)
            · simp only [fn_Room_machine, pu_rix, pu_rin, if_neg c1, if_pos c2, if_pos l3, if_neg n3, if_pos c4, if_pos (Int32.not_le.1 n3), if_neg (fun hh : x2 ≤ x3 ∧ x3 ≤ 60000 => n3 hh.1)] <;> rfl
            · simp only [fn_Model_machine, m1, m2, m3, m4, pu_ml, pu_mw, pu_le3, pu_b1, if_neg c1, if_pos c2, if_pos l3, if_neg n3, if_pos c4, if_pos (Int32.not_le.1 n3), if_neg (fun hh : x2 ≤ x3 ∧ x3 ≤ 60000 => n3 hh.1)] <;> rfl
          · skip
            refine Or.inr (Or.inl ⟨1, a 4, a 5, a 6, a 7, l9 0, ?_, ?_, rfl, ⟨h1, h2, h3, h4, h5, h6, h7, h8, h9, h10, h11, h12, h13, h14, h15, h16, h17⟩⟩)
            · simp only [fn_Room_machine, pu_rix, pu_rin, if_neg c1, if_pos c2, if_pos l3, if_neg n3, if_neg c4, if_pos (Int32.not_le.1 n3), if_neg (fun hh : x2 ≤ x3 ∧ x3 ≤ 60000 => n3 hh.1)] <;> rfl
            · simp only [fn_Model_machine, m1, m2, m3, m4, pu_ml, pu_mw, pu_le3, pu_b1, if_neg c1, if_pos c2, if_pos l3, if_neg n3, if_neg c4, if_pos (Int32.not_le.1 n3), if_neg (fun hh : x2 ≤ x3 ∧ x3 ≤ 60000 => n3 hh.1)] <;> rfl
      · skip
        by_cases n3 : x2 ≤ x3
        · skip
          by_cases c4 : (0 : Int32) ≤ x4 ∧ x4 ≤ 100000
          · skip
            refine Or.inr (Or.inl ⟨1, a 4, a 5, a 6, a 7, l9 0, ?_, ?_, rfl, ⟨h1, h2, h3, h4, h5, h6, h7, h8, h9, h10, h11, h12, h13, h14, h15, h16, h17⟩⟩)
            · simp only [fn_Room_machine, pu_rix, pu_rin, if_neg c1, if_pos c2, if_neg l3, if_pos n3, if_pos c4, if_neg (fun hh : x3 < x2 => absurd hh (Int32.not_lt.2 n3)), if_neg (fun hh : x2 ≤ x3 ∧ x3 ≤ 60000 => l3 ⟨Int32.le_trans c2.1 n3, hh.2⟩)] <;> rfl
            · simp only [fn_Model_machine, m1, m2, m3, m4, pu_ml, pu_mw, pu_le3, pu_b1, if_neg c1, if_pos c2, if_neg l3, if_pos n3, if_pos c4, if_neg (fun hh : x3 < x2 => absurd hh (Int32.not_lt.2 n3)), if_neg (fun hh : x2 ≤ x3 ∧ x3 ≤ 60000 => l3 ⟨Int32.le_trans c2.1 n3, hh.2⟩)] <;> rfl
          · skip
            refine Or.inr (Or.inl ⟨1, a 4, a 5, a 6, a 7, l9 0, ?_, ?_, rfl, ⟨h1, h2, h3, h4, h5, h6, h7, h8, h9, h10, h11, h12, h13, h14, h15, h16, h17⟩⟩)
            · simp only [fn_Room_machine, pu_rix, pu_rin, if_neg c1, if_pos c2, if_neg l3, if_pos n3, if_neg c4, if_neg (fun hh : x3 < x2 => absurd hh (Int32.not_lt.2 n3)), if_neg (fun hh : x2 ≤ x3 ∧ x3 ≤ 60000 => l3 ⟨Int32.le_trans c2.1 n3, hh.2⟩)] <;> rfl
            · simp only [fn_Model_machine, m1, m2, m3, m4, pu_ml, pu_mw, pu_le3, pu_b1, if_neg c1, if_pos c2, if_neg l3, if_pos n3, if_neg c4, if_neg (fun hh : x3 < x2 => absurd hh (Int32.not_lt.2 n3)), if_neg (fun hh : x2 ≤ x3 ∧ x3 ≤ 60000 => l3 ⟨Int32.le_trans c2.1 n3, hh.2⟩)] <;> rfl
        · skip
          by_cases c4 : (0 : Int32) ≤ x4 ∧ x4 ≤ 100000
          · skip
            refine Or.inr (Or.inl ⟨1, a 4, a 5, a 6, a 7, l9 0, ?_, ?_, rfl, ⟨h1, h2, h3, h4, h5, h6, h7, h8, h9, h10, h11, h12, h13, h14, h15, h16, h17⟩⟩)
            · simp only [fn_Room_machine, pu_rix, pu_rin, if_neg c1, if_pos c2, if_neg l3, if_neg n3, if_pos c4, if_pos (Int32.not_le.1 n3), if_neg (fun hh : x2 ≤ x3 ∧ x3 ≤ 60000 => n3 hh.1)] <;> rfl
            · simp only [fn_Model_machine, m1, m2, m3, m4, pu_ml, pu_mw, pu_le3, pu_b1, if_neg c1, if_pos c2, if_neg l3, if_neg n3, if_pos c4, if_pos (Int32.not_le.1 n3), if_neg (fun hh : x2 ≤ x3 ∧ x3 ≤ 60000 => n3 hh.1)] <;> rfl
          · skip
            refine Or.inr (Or.inl ⟨1, a 4, a 5, a 6, a 7, l9 0, ?_, ?_, rfl, ⟨h1, h2, h3, h4, h5, h6, h7, h8, h9, h10, h11, h12, h13, h14, h15, h16, h17⟩⟩)
            · simp only [fn_Room_machine, pu_rix, pu_rin, if_neg c1, if_pos c2, if_neg l3, if_neg n3, if_neg c4, if_pos (Int32.not_le.1 n3), if_neg (fun hh : x2 ≤ x3 ∧ x3 ≤ 60000 => n3 hh.1)] <;> rfl
            · simp only [fn_Model_machine, m1, m2, m3, m4, pu_ml, pu_mw, pu_le3, pu_b1, if_neg c1, if_pos c2, if_neg l3, if_neg n3, if_neg c4, if_pos (Int32.not_le.1 n3), if_neg (fun hh : x2 ≤ x3 ∧ x3 ≤ 60000 => n3 hh.1)] <;> rfl
    · skip
      by_cases l3 : (-60000 : Int32) ≤ x3 ∧ x3 ≤ 60000
      · skip
        by_cases n3 : x2 ≤ x3
        · skip
          by_cases c4 : (0 : Int32) ≤ x4 ∧ x4 ≤ 100000
          · skip
            refine Or.inr (Or.inl ⟨1, a 4, a 5, a 6, a 7, l9 0, ?_, ?_, rfl, ⟨h1, h2, h3, h4, h5, h6, h7, h8, h9, h10, h11, h12, h13, h14, h15, h16, h17⟩⟩)
            · simp only [fn_Room_machine, pu_rix, pu_rin, if_neg c1, if_neg c2, if_pos l3, if_pos n3, if_pos c4, if_neg (fun hh : x3 < x2 => absurd hh (Int32.not_lt.2 n3)), if_pos (⟨n3, l3.2⟩ : x2 ≤ x3 ∧ x3 ≤ 60000)] <;> rfl
            · simp only [fn_Model_machine, m1, m2, m3, m4, pu_ml, pu_mw, pu_le3, pu_b1, if_neg c1, if_neg c2, if_pos l3, if_pos n3, if_pos c4, if_neg (fun hh : x3 < x2 => absurd hh (Int32.not_lt.2 n3)), if_pos (⟨n3, l3.2⟩ : x2 ≤ x3 ∧ x3 ≤ 60000)] <;> rfl
          · skip
            refine Or.inr (Or.inl ⟨1, a 4, a 5, a 6, a 7, l9 0, ?_, ?_, rfl, ⟨h1, h2, h3, h4, h5, h6, h7, h8, h9, h10, h11, h12, h13, h14, h15, h16, h17⟩⟩)
            · simp only [fn_Room_machine, pu_rix, pu_rin, if_neg c1, if_neg c2, if_pos l3, if_pos n3, if_neg c4, if_neg (fun hh : x3 < x2 => absurd hh (Int32.not_lt.2 n3)), if_pos (⟨n3, l3.2⟩ : x2 ≤ x3 ∧ x3 ≤ 60000)] <;> rfl
            · simp only [fn_Model_machine, m1, m2, m3, m4, pu_ml, pu_mw, pu_le3, pu_b1, if_neg c1, if_neg c2, if_pos l3, if_pos n3, if_neg c4, if_neg (fun hh : x3 < x2 => absurd hh (Int32.not_lt.2 n3)), if_pos (⟨n3, l3.2⟩ : x2 ≤ x3 ∧ x3 ≤ 60000)] <;> rfl
        · skip
          by_cases c4 : (0 : Int32) ≤ x4 ∧ x4 ≤ 100000
          · skip
            refine Or.inr (Or.inl ⟨1, a 4, a 5, a 6, a 7, l9 0, ?_, ?_, rfl, ⟨h1, h2, h3, h4, h5, h6, h7, h8, h9, h10, h11, h12, h13, h14, h15, h16, h17⟩⟩)
            · simp only [fn_Room_machine, pu_rix, pu_rin, if_neg c1, if_neg c2, if_pos l3, if_neg n3, if_pos c4, if_pos (Int32.not_le.1 n3), if_neg (fun hh : x2 ≤ x3 ∧ x3 ≤ 60000 => n3 hh.1)] <;> rfl
            · simp only [fn_Model_machine, m1, m2, m3, m4, pu_ml, pu_mw, pu_le3, pu_b1, if_neg c1, if_neg c2, if_pos l3, if_neg n3, if_pos c4, if_pos (Int32.not_le.1 n3), if_neg (fun hh : x2 ≤ x3 ∧ x3 ≤ 60000 => n3 hh.1)] <;> rfl
          · skip
            refine Or.inr (Or.inl ⟨1, a 4, a 5, a 6, a 7, l9 0, ?_, ?_, rfl, ⟨h1, h2, h3, h4, h5, h6, h7, h8, h9, h10, h11, h12, h13, h14, h15, h16, h17⟩⟩)
            · simp only [fn_Room_machine, pu_rix, pu_rin, if_neg c1, if_neg c2, if_pos l3, if_neg n3, if_neg c4, if_pos (Int32.not_le.1 n3), if_neg (fun hh : x2 ≤ x3 ∧ x3 ≤ 60000 => n3 hh.1)] <;> rfl
            · simp only [fn_Model_machine, m1, m2, m3, m4, pu_ml, pu_mw, pu_le3, pu_b1, if_neg c1, if_neg c2, if_pos l3, if_neg n3, if_neg c4, if_pos (Int32.not_le.1 n3), if_neg (fun hh : x2 ≤ x3 ∧ x3 ≤ 60000 => n3 hh.1)] <;> rfl
      · skip
        by_cases n3 : x2 ≤ x3
        · skip
          by_cases c4 : (0 : Int32) ≤ x4 ∧ x4 ≤ 100000
          · skip
            refine Or.inr (Or.inl ⟨1, a 4, a 5, a 6, a 7, l9 0, ?_, ?_, rfl, ⟨h1, h2, h3, h4, h5, h6, h7, h8, h9, h10, h11, h12, h13, h14, h15, h16, h17⟩⟩)
            · simp only [fn_Room_machine, pu_rix, pu_rin, if_neg c1, if_neg c2, if_neg l3, if_pos n3, if_pos c4, if_neg (fun hh : x3 < x2 => absurd hh (Int32.not_lt.2 n3))] <;> rfl
            · simp only [fn_Model_machine, m1, m2, m3, m4, pu_ml, pu_mw, pu_le3, pu_b1, if_neg c1, if_neg c2, if_neg l3, if_pos n3, if_pos c4, if_neg (fun hh : x3 < x2 => absurd hh (Int32.not_lt.2 n3))] <;> rfl
          · skip
            refine Or.inr (Or.inl ⟨1, a 4, a 5, a 6, a 7, l9 0, ?_, ?_, rfl, ⟨h1, h2, h3, h4, h5, h6, h7, h8, h9, h10, h11, h12, h13, h14, h15, h16, h17⟩⟩)
            · simp only [fn_Room_machine, pu_rix, pu_rin, if_neg c1, if_neg c2, if_neg l3, if_pos n3, if_neg c4, if_neg (fun hh : x3 < x2 => absurd hh (Int32.not_lt.2 n3))] <;> rfl
            · simp only [fn_Model_machine, m1, m2, m3, m4, pu_ml, pu_mw, pu_le3, pu_b1, if_neg c1, if_neg c2, if_neg l3, if_pos n3, if_neg c4, if_neg (fun hh : x3 < x2 => absurd hh (Int32.not_lt.2 n3))] <;> rfl
        · skip
          by_cases c4 : (0 : Int32) ≤ x4 ∧ x4 ≤ 100000
          · skip
            refine Or.inr (Or.inl ⟨1, a 4, a 5, a 6, a 7, l9 0, ?_, ?_, rfl, ⟨h1, h2, h3, h4, h5, h6, h7, h8, h9, h10, h11, h12, h13, h14, h15, h16, h17⟩⟩)
            · simp only [fn_Room_machine, pu_rix, pu_rin, if_neg c1, if_neg c2, if_neg l3, if_neg n3, if_pos c4, if_pos (Int32.not_le.1 n3), if_neg (fun hh : x2 ≤ x3 ∧ x3 ≤ 60000 => n3 hh.1)] <;> rfl
            · simp only [fn_Model_machine, m1, m2, m3, m4, pu_ml, pu_mw, pu_le3, pu_b1, if_neg c1, if_neg c2, if_neg l3, if_neg n3, if_pos c4, if_pos (Int32.not_le.1 n3), if_neg (fun hh : x2 ≤ x3 ∧ x3 ≤ 60000 => n3 hh.1)] <;> rfl
          · skip
            refine Or.inr (Or.inl ⟨1, a 4, a 5, a 6, a 7, l9 0, ?_, ?_, rfl, ⟨h1, h2, h3, h4, h5, h6, h7, h8, h9, h10, h11, h12, h13, h14, h15, h16, h17⟩⟩)
            · simp only [fn_Room_machine, pu_rix, pu_rin, if_neg c1, if_neg c2, if_neg l3, if_neg n3, if_neg c4, if_pos (Int32.not_le.1 n3), if_neg (fun hh : x2 ≤ x3 ∧ x3 ≤ 60000 => n3 hh.1)] <;> rfl
            · simp only [fn_Model_machine, m1, m2, m3, m4, pu_ml, pu_mw, pu_le3, pu_b1, if_neg c1, if_neg c2, if_neg l3, if_neg n3, if_neg c4, if_pos (Int32.not_le.1 n3), if_neg (fun hh : x2 ≤ x3 ∧ x3 ≤ 60000 => n3 hh.1)] <;> rfl
