theorem ps_alarm {I : Nat → Int32} {J : Nat → Int64} {A : Nat → Nat → Int32} {L : Nat → Nat → Int64} {i : Nat → Int32} {a : Nat → Nat → Int32} {l9 : Nat → Nat → Int64} (h : pu_Rel I J A L i a l9) (o : Nat → Int64) (x1 x2 : Int32) : st_alarm pu_Rel I J A L i a l9 o x1 x2 := by
  obtain ⟨h1, h2, h3, h4, h5, h6, h7, h8, h9, h10, h11, h12, h13, h14, h15, h16, h17⟩ := h
  unfold st_alarm
  obtain ⟨e1, e2, e3, e4, e5, b0, b4, b5, b6⟩ := h12
  have h12 : pu_Rrule (I 0) (I 14) (A 25) (A 26) (A 27) (A 28) (i 7) (a 12) (a 13) (a 14) (a 15) := ⟨e1, e2, e3, e4, e5, b0, b4, b5, b6⟩
  have b3 := h17.2.2.2.2.1
  have zm : (-1 : Int32).toInt = -1 := rfl
  by_cases c1 : 0 ≤ x1 ∧ x1 < I 14
  · obtain ⟨g0, g1, g2⟩ := pu_nn c1
    have ix4 : gx_ix x1 4 = true := pu_ix g0 (by omega)
    by_cases c2 : (-1 : Int32) ≤ x2
    · have n2 : ¬ x2 < (-1 : Int32) := Int32.not_lt.2 c2
      by_cases c3 : x2 = -1
      · refine Or.inl ⟨vp_updL o (0 : Int32).toNatClampNeg (A 28 x1.toNatClampNeg).toInt64, A 28 x1.toNatClampNeg, 0, ?_, ?_, rfl, (lg_cmp_eq _ _).2 pk_uLs, ⟨h1, h2, h3, h4, h5, h6, h7, h8, h9, h10, h11, h12, h13, h14, h15, h16, h17⟩⟩
        · simp only [fn_Law_alarm, fn_Room_alarm, pu_rix, if_pos c1, if_pos c2, if_pos ix4, if_pos c3] <;> rfl
        · simp only [fn_Model_alarm, e1, e5, pu_mw, pu_pred b0, pu_b1, if_pos c1, if_neg pu_n0, if_neg n2, pu_goes, pu_b2, if_pos c3, if_pos ix4] <;> rfl
      · by_cases c4 : A 28 x1.toNatClampNeg ≤ x2
        · refine Or.inl ⟨vp_updL o (0 : Int32).toNatClampNeg (-1 : Int32).toInt64, -1, 0, ?_, ?_, rfl, (lg_cmp_eq _ _).2 pk_uLs, ⟨h1, h2, h3, h4, h5, h6, h7, h8, h9, h10, h11, h12, h13, h14, h15, h16, h17⟩⟩
          · simp only [fn_Law_alarm, fn_Room_alarm, pu_rix, if_pos c1, if_pos c2, if_pos ix4, if_neg c3, if_pos c4] <;> rfl
          · simp only [fn_Model_alarm, e1, e5, pu_mw, pu_pred b0, pu_b1, if_pos c1, if_neg pu_n0, if_neg n2, pu_goes, pu_b2, if_neg c3, if_pos ix4, if_pos c4] <;> rfl
        · have q1 := (b5 x1.toNatClampNeg (by omega)).2
          have q2 := Int32.lt_iff_toInt_lt.1 (Int32.not_le.1 c4)
          have q3 := Int32.le_iff_toInt_le.1 c2
          have q4 : x2.toInt ≠ -1 := fun hh => c3 (Int32.toInt_inj.1 hh)
          have k0 : 0 ≤ x2.toInt := by omega
          have kt : x2.toNatClampNeg = x2.toInt.toNat := rfl
          have ix3 : gx_ix x2 300 = true := pu_ix k0 (by omega)
          have hc : x1.toInt = 0 ∨ x1.toInt = 1 ∨ x1.toInt = 2 ∨ x1.toInt = 3 := by omega
          rcases hc with hc | hc | hc | hc
          · have hx : x1 = 0 := Int32.toInt_inj.1 hc
            subst hx
            have e3 := pu_a3 (k := x2) (n := 0) 0 rfl (by omega) k0 (by omega)
            have ixa : gx_ix (0 + x2) 1200 = true := pu_ix (by omega) (by omega)
            have e9 : a 16 (0 + x2).toNatClampNeg = A 29 x2.toNatClampNeg := by
              rw [e3.2]
              exact h13 x2.toNatClampNeg (by omega)
            refine Or.inl ⟨vp_updL o (0 : Int32).toNatClampNeg (A 29 x2.toNatClampNeg).toInt64, A 29 x2.toNatClampNeg, 0, ?_, ?_, rfl, (lg_cmp_eq _ _).2 pk_uLs, ⟨h1, h2, h3, h4, h5, h6, h7, h8, h9, h10, h11, h12, h13, h14, h15, h16, h17⟩⟩
            · simp only [fn_Law_alarm, fn_Room_alarm, pu_rix, if_pos c1, if_pos c2, if_pos ix4, if_neg c3, if_neg c4, if_pos ix3, if_pos (by decide : (0 : Int32) = 0), ↓reduceIte] <;> rfl
            · simp only [fn_Model_alarm, e1, e5, pu_mw, pu_pred b0, pu_b1, if_pos c1, if_neg pu_n0, if_neg n2, pu_goes, pu_b2, if_neg c3, if_pos ix4, if_neg c4, show (300 : Int32) * 0 = 0 from rfl, if_pos ixa, e9] <;> rfl
          · have hx : x1 = 1 := Int32.toInt_inj.1 hc
            subst hx
            have e3 := pu_a3 (k := x2) (n := 300) 300 rfl (by omega) k0 (by omega)
            have ixa : gx_ix (300 + x2) 1200 = true := pu_ix (by omega) (by omega)
            have e9 : a 16 (300 + x2).toNatClampNeg = A 30 x2.toNatClampNeg := by
              rw [e3.2]
              exact h14 x2.toNatClampNeg (by omega)
            refine Or.inl ⟨vp_updL o (0 : Int32).toNatClampNeg (A 30 x2.toNatClampNeg).toInt64, A 30 x2.toNatClampNeg, 0, ?_, ?_, rfl, (lg_cmp_eq _ _).2 pk_uLs, ⟨h1, h2, h3, h4, h5, h6, h7, h8, h9, h10, h11, h12, h13, h14, h15, h16, h17⟩⟩
            · simp only [fn_Law_alarm, fn_Room_alarm, pu_rix, if_pos c1, if_pos c2, if_pos ix4, if_neg c3, if_neg c4, if_pos ix3, if_neg (by decide : ¬ (1 : Int32) = 0), if_pos (by decide : (1 : Int32) = 1), ↓reduceIte] <;> rfl
            · simp only [fn_Model_alarm, e1, e5, pu_mw, pu_pred b0, pu_b1, if_pos c1, if_neg pu_n0, if_neg n2, pu_goes, pu_b2, if_neg c3, if_pos ix4, if_neg c4, show (300 : Int32) * 1 = 300 from rfl, if_pos ixa, e9] <;> rfl
          · have hx : x1 = 2 := Int32.toInt_inj.1 hc
            subst hx
            have e3 := pu_a3 (k := x2) (n := 600) 600 rfl (by omega) k0 (by omega)
            have ixa : gx_ix (600 + x2) 1200 = true := pu_ix (by omega) (by omega)
            have e9 : a 16 (600 + x2).toNatClampNeg = A 31 x2.toNatClampNeg := by
              rw [e3.2]
              exact h15 x2.toNatClampNeg (by omega)
            refine Or.inl ⟨vp_updL o (0 : Int32).toNatClampNeg (A 31 x2.toNatClampNeg).toInt64, A 31 x2.toNatClampNeg, 0, ?_, ?_, rfl, (lg_cmp_eq _ _).2 pk_uLs, ⟨h1, h2, h3, h4, h5, h6, h7, h8, h9, h10, h11, h12, h13, h14, h15, h16, h17⟩⟩
            · simp only [fn_Law_alarm, fn_Room_alarm, pu_rix, if_pos c1, if_pos c2, if_pos ix4, if_neg c3, if_neg c4, if_pos ix3, if_neg (by decide : ¬ (2 : Int32) = 0), if_neg (by decide : ¬ (2 : Int32) = 1), if_pos (by decide : (2 : Int32) = 2), ↓reduceIte] <;> rfl
            · simp only [fn_Model_alarm, e1, e5, pu_mw, pu_pred b0, pu_b1, if_pos c1, if_neg pu_n0, if_neg n2, pu_goes, pu_b2, if_neg c3, if_pos ix4, if_neg c4, show (300 : Int32) * 2 = 600 from rfl, if_pos ixa, e9] <;> rfl
          · have hx : x1 = 3 := Int32.toInt_inj.1 hc
            subst hx
            have e3 := pu_a3 (k := x2) (n := 900) 900 rfl (by omega) k0 (by omega)
            have ixa : gx_ix (900 + x2) 1200 = true := pu_ix (by omega) (by omega)
            have e9 : a 16 (900 + x2).toNatClampNeg = A 32 x2.toNatClampNeg := by
              rw [e3.2]
              exact h16 x2.toNatClampNeg (by omega)
            refine Or.inl ⟨vp_updL o (0 : Int32).toNatClampNeg (A 32 x2.toNatClampNeg).toInt64, A 32 x2.toNatClampNeg, 0, ?_, ?_, rfl, (lg_cmp_eq _ _).2 pk_uLs, ⟨h1, h2, h3, h4, h5, h6, h7, h8, h9, h10, h11, h12, h13, h14, h15, h16, h17⟩⟩
            · simp only [fn_Law_alarm, fn_Room_alarm, pu_rix, if_pos c1, if_pos c2, if_pos ix4, if_neg c3, if_neg c4, if_pos ix3, if_neg (by decide : ¬ (3 : Int32) = 0), if_neg (by decide : ¬ (3 : Int32) = 1), if_neg (by decide : ¬ (3 : Int32) = 2), if_pos (by decide : (3 : Int32) = 3), ↓reduceIte] <;> rfl
            · simp only [fn_Model_alarm, e1, e5, pu_mw, pu_pred b0, pu_b1, if_pos c1, if_neg pu_n0, if_neg n2, pu_goes, pu_b2, if_neg c3, if_pos ix4, if_neg c4, show (300 : Int32) * 3 = 900 from rfl, if_pos ixa, e9] <;> rfl
    · have n2 : x2 < (-1 : Int32) := Int32.not_le.1 c2
      refine Or.inr ⟨0, 1, ?_, ?_, rfl, ⟨h1, h2, h3, h4, h5, h6, h7, h8, h9, h10, h11, h12, h13, h14, h15, h16, h17⟩⟩
      · simp only [fn_Room_alarm, pu_rix, if_pos c1, if_neg c2] <;> rfl
      · simp only [fn_Model_alarm, e1, pu_mw, pu_pred b0, pu_b1, if_pos c1, if_neg pu_n0, if_pos n2] <;> rfl
  · refine Or.inr ⟨0, 1, ?_, ?_, rfl, ⟨h1, h2, h3, h4, h5, h6, h7, h8, h9, h10, h11, h12, h13, h14, h15, h16, h17⟩⟩
    · simp only [fn_Room_alarm, pu_rix, if_neg c1] <;> rfl
    · simp only [fn_Model_alarm, e1, pu_mw, pu_pred b0, pu_b1, if_neg c1] <;> rfl
theorem pu_rkO {s r : Nat} (hs : s ≠ r) {n : Int32} {f g n' f' g' : Nat → Int32} (hR : pu_Rrk s n f g n' f' g') {k : Nat} (hk : k < 5) (y x2 x3 : Int32) : pu_Rrk s n f g (upd n' r y) (upd f' (5 * r + k) x2) (upd g' (5 * r + k) x3) := by
  obtain ⟨a1, a2, a3, a4, a5⟩ := hR
  refine ⟨?_, a2, a3, fun j hj => ?_, a5⟩
  · rw [pk_un hs, a1]
  · rw [pk_un (by omega), pk_un (by omega)]
    exact a4 j hj
theorem pu_rkN {r : Nat} {n : Int32} {f g n' f' g' : Nat → Int32} (hR : pu_Rrk r n f g n' f' g') (hn : n.toInt < 5) {x2 : Int32} (hr : n = 0 ∨ f (n - 1).toNatClampNeg < x2) (x3 : Int32) : pu_Rrk r (n + 1) (upd f n.toNatClampNeg x2) (upd g n.toNatClampNeg x3) (upd n' r (n + 1)) (upd f' (5 * r + n.toNatClampNeg) x2) (upd g' (5 * r + n.toNatClampNeg) x3) := by
  obtain ⟨a1, a2, a3, a4, a5⟩ := hR
  have z1 : (1 : Int32).toInt = 1 := rfl
  have s1 : (n + 1).toInt = n.toInt + 1 := by
    rw [pu_add (by omega) (by omega), z1]
  have t : n.toNatClampNeg = n.toInt.toNat := rfl
  refine ⟨pk_us, by omega, by omega, fun j hj => ?_, fun j hj => ?_⟩
  · by_cases hq : j = n.toNatClampNeg
    · rw [hq, pk_us, pk_us, pk_us, pk_us]
      exact ⟨rfl, rfl⟩
    · rw [pk_un (by omega), pk_un hq, pk_un (by omega), pk_un hq]
      exact a4 j hj
  · by_cases hq : j + 1 = n.toNatClampNeg
    · rw [pk_un (by omega), hq, pk_us]
      rcases hr with hr | hr
      · rw [hr] at hq
        exact absurd hq (by
          have q0 : (0 : Int32).toNatClampNeg = 0 := rfl
          omega)
      · have m1 : (n - 1).toInt = n.toInt - 1 := by
          rw [pu_sub (by omega) (by omega), z1]
        have mt : (n - 1).toNatClampNeg = (n - 1).toInt.toNat := rfl
        rw [show (n - 1).toNatClampNeg = j by omega] at hr
        exact Int32.lt_iff_toInt_lt.1 hr
    · rw [pk_un (by omega), pk_un hq]
      exact a5 j (by omega)
