theorem pu_sil {h : Int32} {s v' : Nat → Int32} (hh : h.toInt ≤ 300) (hs : ∀ j : Nat, j < 300 → (v' j = -200000 ↔ s j = 0)) (u : Int32) (t : Nat) : ∀ p : Nat, t < p → ∀ (b l n k : Int32), 0 ≤ k.toInt → k.toInt + t = h.toInt → ∃ y, fn_Gauge_longestGap_L11 h s p b l n k = some y ∧ fn_Model_silent_L26 h u v' p b l n k = some (y, u) := by
  have z1 : (1 : Int32).toInt = 1 := rfl
  induction t with
  | zero =>
    intro p hp b l n k h0 hk
    obtain ⟨p, rfl⟩ : ∃ p', p = p' + 1 := ⟨p - 1, by omega⟩
    have c1 : h ≤ k := by
      rw [Int32.le_iff_toInt_le]
      omega
    refine ⟨b, ?_, ?_⟩
    · rw [fn_Gauge_longestGap_L11, if_pos c1]
    · rw [fn_Model_silent_L26, if_pos c1]
  | succ t ih =>
    intro p hp b l n k h0 hk
    obtain ⟨p, rfl⟩ : ∃ p', p = p' + 1 := ⟨p - 1, by omega⟩
    have c1 : ¬ h ≤ k := by
      rw [Int32.le_iff_toInt_le]
      omega
    have kt : k.toNatClampNeg = k.toInt.toNat := rfl
    have k1 : (k + 1).toInt = k.toInt + 1 := by
      rw [pu_add (by omega) (by omega), z1]
    have ix : gx_ix k 300 = true := pu_ix h0 (by omega)
    have hq := hs k.toNatClampNeg (by omega)
    rw [fn_Gauge_longestGap_L11, fn_Model_silent_L26, if_neg c1, if_neg c1, if_pos ix, if_pos ix]
    by_cases c2 : s k.toNatClampNeg = 0
    · rw [if_pos c2, if_pos (hq.2 c2), pu_b1, pu_b1]
      by_cases c3 : n + 1 ≤ l
      · rw [if_pos c3, if_pos c3, if_pos c3, pu_b2, pu_b1, pu_b1]
        exact ih p (by omega) _ _ _ _ (by omega) (by omega)
      · rw [if_neg c3, if_neg c3, if_neg c3, pu_b2, pu_b1, pu_b1]
        exact ih p (by omega) _ _ _ _ (by omega) (by omega)
    · rw [if_neg c2, if_neg (fun h9 => c2 (hq.1 h9)), pu_b1, pu_b1]
      by_cases c3 : (0 : Int32) ≤ l
      · rw [if_pos c3, if_pos c3, if_pos c3, pu_b2, pu_b1, pu_b1]
        exact ih p (by omega) _ _ _ _ (by omega) (by omega)
      · rw [if_neg c3, if_neg c3, if_neg c3, pu_b2, pu_b1, pu_b1]
        exact ih p (by omega) _ _ _ _ (by omega) (by omega)
theorem pu_sv {h n : Int32} {v s r k : Nat → Int32} {h' : Int32} {v' k' r' : Nat → Int32} (g : pu_Rgau h n v s r k h' v' k' r') : ∀ j : Nat, j < 300 → (v' j = -200000 ↔ s j = 0) := by
  obtain ⟨e1, e2, e3, b0, b3, b4, b5, b6, b7⟩ := g
  intro j hj
  rw [b4 j hj]
  by_cases c : s j = 0
  · rw [if_pos c]
    exact ⟨fun _ => c, fun _ => rfl⟩
  · rw [if_neg c]
    refine ⟨fun hh => ?_, fun hh => absurd hh c⟩
    have q := b5 j hj c
    rw [hh] at q
    exact absurd q.1 (by decide)
theorem pu_cntL {h : Int32} {f : Nat → Int32} (hh : h.toInt ≤ 300) (x u ru ro la : Int32) (t : Nat) : ∀ p : Nat, t < p → ∀ (c k : Int32), 0 ≤ k.toInt → k.toInt + t = h.toInt → c = pu_cnt f k.toNatClampNeg → fn_Model_count_L21 x u h ru ro la f p c k = some ((if x = 0 then h else if x = 1 then la else if x = 2 then ro else if x = 3 then ru else pu_cnt f h.toNatClampNeg), u) := by
  have z1 : (1 : Int32).toInt = 1 := rfl
  induction t with
  | zero =>
    intro p hp c k h0 hk hc
    obtain ⟨p, rfl⟩ : ∃ p', p = p' + 1 := ⟨p - 1, by omega⟩
    have c1 : h ≤ k := by
      rw [Int32.le_iff_toInt_le]
      omega
    have ek : k = h := Int32.toInt_inj.1 (by omega)
    rw [fn_Model_count_L21, if_pos c1, hc, ek]
    by_cases c2 : x = 0
    · rw [if_pos c2, if_pos c2]
      rfl
    · rw [if_neg c2, if_neg c2]
      by_cases c3 : x = 1
      · rw [if_pos c3, if_pos c3]
        rfl
      · rw [if_neg c3, if_neg c3]
        by_cases c4 : x = 2
        · rw [if_pos c4, if_pos c4]
          rfl
        · rw [if_neg c4, if_neg c4]
          by_cases c5 : x = 3
          · rw [if_pos c5, if_pos c5]
            rfl
          · rw [if_neg c5, if_neg c5]
            rfl
  | succ t ih =>
    intro p hp c k h0 hk hc
    obtain ⟨p, rfl⟩ : ∃ p', p = p' + 1 := ⟨p - 1, by omega⟩
    have c1 : ¬ h ≤ k := by
      rw [Int32.le_iff_toInt_le]
      omega
    have kt : k.toNatClampNeg = k.toInt.toNat := rfl
    have k1 : (k + 1).toInt = k.toInt + 1 := by
      rw [pu_add (by omega) (by omega), z1]
    have kt1 : (k + 1).toNatClampNeg = (k + 1).toInt.toNat := rfl
    have kt2 : (k + 1).toNatClampNeg = k.toNatClampNeg + 1 := by omega
    have ix : gx_ix k 300 = true := pu_ix h0 (by omega)
    rw [fn_Model_count_L21, if_neg c1, if_pos ix]
    by_cases c2 : f k.toNatClampNeg = 0
    · rw [if_pos c2, pu_b1]
      refine ih p (by omega) _ _ (by omega) (by omega) ?_
      rw [kt2, pu_cnt, if_pos c2, hc]
    · rw [if_neg c2, pu_b1]
      refine ih p (by omega) _ _ (by omega) (by omega) ?_
      rw [kt2, pu_cnt, if_neg c2, hc]
theorem pu_max0 (x : Int64) : (if 0 ≤ lg_cmp x 0 then x else 0) = (if 0 < x then x else 0) := by
  by_cases c : 0 < x
  · rw [if_pos c, if_pos ((lg_cmp_ge _ _).2 (Int64.le_of_lt c))]
  · rw [if_neg c]
    by_cases c2 : 0 ≤ lg_cmp x 0
    · rw [if_pos c2]
      have c3 := (lg_cmp_ge _ _).1 c2
      exact Int64.le_antisymm (Int64.not_lt.1 c) c3
    · rw [if_neg c2]
theorem ps_silent {I : Nat → Int32} {J : Nat → Int64} {A : Nat → Nat → Int32} {L : Nat → Nat → Int64} {i : Nat → Int32} {a : Nat → Nat → Int32} {l9 : Nat → Nat → Int64} (h : pu_Rel I J A L i a l9) (o : Nat → Int64) (x1 : Int32) : st_silent pu_Rel I J A L i a l9 o x1 := by
  obtain ⟨h1, h2, h3, h4, h5, h6, h7, h8, h9, h10, h11, h12, h13, h14, h15, h16, h17⟩ := h
  unfold st_silent
  obtain ⟨e1, e2, e3, b0, b3, b4, b5, b6, b7⟩ := h17
  have h17 : pu_Rgau (I 0) (I 15) (A 33) (A 34) (A 35) (A 36) (i 6) (a 17) (a 18) (a 19) := ⟨e1, e2, e3, b0, b3, b4, b5, b6, b7⟩
  have z : (0 : Int32).toInt = 0 := rfl
  by_cases c1 : 0 ≤ x1 ∧ x1 < I 0
  · obtain ⟨g0, g1, g2⟩ := pu_nn c1
    obtain ⟨y, y1, y2⟩ := pu_sil (h := I 0) b3 (pu_sv h17) 0 ((I 0).toInt - x1.toInt).toNat 400 (by omega) (-1) 0 0 x1 g0 (by omega)
    refine Or.inl ⟨vp_updL o (0 : Int32).toNatClampNeg y.toInt64, y, 0, ?_, ?_, rfl, (lg_cmp_eq _ _).2 pk_uLs, ⟨h1, h2, h3, h4, h5, h6, h7, h8, h9, h10, h11, h12, h13, h14, h15, h16, h17⟩⟩
    · simp only [fn_Law_silent, fn_Room_silent, fn_Gauge_longestGap, pu_rix, if_pos c1, y1] <;> rfl
    · simp only [fn_Model_silent, e1, pu_mwh b0, pu_b1, if_pos c1, pu_goes, if_neg pu_n0, pu_b2, y2] <;> rfl
  · refine Or.inr ⟨0, 1, ?_, ?_, rfl, ⟨h1, h2, h3, h4, h5, h6, h7, h8, h9, h10, h11, h12, h13, h14, h15, h16, h17⟩⟩
    · simp only [fn_Room_silent, pu_rix, if_neg c1] <;> rfl
    · simp only [fn_Model_silent, e1, pu_mwh b0, pu_b1, if_neg c1] <;> rfl
theorem ps_count {I : Nat → Int32} {J : Nat → Int64} {A : Nat → Nat → Int32} {L : Nat → Nat → Int64} {i : Nat → Int32} {a : Nat → Nat → Int32} {l9 : Nat → Nat → Int64} (h : pu_Rel I J A L i a l9) (o : Nat → Int64) (x1 : Int32) : st_count pu_Rel I J A L i a l9 o x1 := by
  obtain ⟨h1, h2, h3, h4, h5, h6, h7, h8, h9, h10, h11, h12, h13, h14, h15, h16, h17⟩ := h
  unfold st_count
  obtain ⟨e1, e2, e3, b0, b3, b4, b5, b6, b7⟩ := h17
  have h17 : pu_Rgau (I 0) (I 15) (A 33) (A 34) (A 35) (A 36) (i 6) (a 17) (a 18) (a 19) := ⟨e1, e2, e3, b0, b3, b4, b5, b6, b7⟩
  have q3 := h2.1
  have q5 := h3.2.1
  have q7 := h12.1
  have z : (0 : Int32).toInt = 0 := rfl
  have L := fun x u : Int32 => pu_cntL (h := I 0) (f := A 36) b3 x u (I 14) (I 5) (I 3) (I 0).toInt.toNat 400 (by omega) 0 0 (by omega) (by omega) rfl
  by_cases k0 : x1 = 0
  · refine Or.inl ⟨vp_updL o (0 : Int32).toNatClampNeg (I 0).toInt64, I 0, 0, ?_, ?_, rfl, (lg_cmp_eq _ _).2 pk_uLs, ⟨h1, h2, h3, h4, h5, h6, h7, h8, h9, h10, h11, h12, h13, h14, h15, h16, h17⟩⟩
    · rw [k0]
      rfl
    · rw [k0, e1, e2, q3, q5, q7]
      show fn_Model_count_L21 0 0 (I 0) (I 14) (I 5) (I 3) (A 36) 400 0 0 = _
      rw [L]
      rfl
  by_cases k1 : x1 = 1
  · refine Or.inl ⟨vp_updL o (0 : Int32).toNatClampNeg (I 3).toInt64, I 3, 0, ?_, ?_, rfl, (lg_cmp_eq _ _).2 pk_uLs, ⟨h1, h2, h3, h4, h5, h6, h7, h8, h9, h10, h11, h12, h13, h14, h15, h16, h17⟩⟩
    · rw [k1]
      rfl
    · rw [k1, e1, e2, q3, q5, q7]
      show fn_Model_count_L21 1 0 (I 0) (I 14) (I 5) (I 3) (A 36) 400 0 0 = _
      rw [L]
      rfl
  by_cases k2 : x1 = 2
  · refine Or.inl ⟨vp_updL o (0 : Int32).toNatClampNeg (I 5).toInt64, I 5, 0, ?_, ?_, rfl, (lg_cmp_eq _ _).2 pk_uLs, ⟨h1, h2, h3, h4, h5, h6, h7, h8, h9, h10, h11, h12, h13, h14, h15, h16, h17⟩⟩
    · rw [k2]
      rfl
    · rw [k2, e1, e2, q3, q5, q7]
      show fn_Model_count_L21 2 0 (I 0) (I 14) (I 5) (I 3) (A 36) 400 0 0 = _
      rw [L]
      rfl
  by_cases k3 : x1 = 3
  · refine Or.inl ⟨vp_updL o (0 : Int32).toNatClampNeg (I 14).toInt64, I 14, 0, ?_, ?_, rfl, (lg_cmp_eq _ _).2 pk_uLs, ⟨h1, h2, h3, h4, h5, h6, h7, h8, h9, h10, h11, h12, h13, h14, h15, h16, h17⟩⟩
    · rw [k3]
      rfl
    · rw [k3, e1, e2, q3, q5, q7]
      show fn_Model_count_L21 3 0 (I 0) (I 14) (I 5) (I 3) (A 36) 400 0 0 = _
      rw [L]
      rfl
  by_cases k4 : x1 = 4
  · refine Or.inl ⟨vp_updL o (0 : Int32).toNatClampNeg (I 15).toInt64, I 15, 0, ?_, ?_, rfl, (lg_cmp_eq _ _).2 pk_uLs, ⟨h1, h2, h3, h4, h5, h6, h7, h8, h9, h10, h11, h12, h13, h14, h15, h16, h17⟩⟩
    · rw [k4]
      rfl
    · rw [k4, e1, e2, q3, q5, q7]
      show fn_Model_count_L21 4 0 (I 0) (I 14) (I 5) (I 3) (A 36) 400 0 0 = _
      rw [L]
      rw [b7]
      rfl
  refine Or.inr ⟨0, 1, ?_, ?_, rfl, ⟨h1, h2, h3, h4, h5, h6, h7, h8, h9, h10, h11, h12, h13, h14, h15, h16, h17⟩⟩
  · simp only [fn_Room_count, if_neg k0, if_neg k1, if_neg k2, if_neg k3, if_neg k4] <;> rfl
  · have w1 : ¬ ((0 : Int32) ≤ x1 ∧ x1 ≤ 4) := by
      rintro ⟨p1, p2⟩
      rw [Int32.le_iff_toInt_le] at p1 p2
      have z4 : (4 : Int32).toInt = 4 := rfl
      have n0 : x1.toInt ≠ 0 := fun hh => k0 (Int32.toInt_inj.1 hh)
      have n1 : x1.toInt ≠ 1 := fun hh => k1 (Int32.toInt_inj.1 hh)
      have n2 : x1.toInt ≠ 2 := fun hh => k2 (Int32.toInt_inj.1 hh)
      have n3 : x1.toInt ≠ 3 := fun hh => k3 (Int32.toInt_inj.1 hh)
      have n4 : x1.toInt ≠ 4 := fun hh => k4 (Int32.toInt_inj.1 hh)
      omega
    simp only [fn_Model_count, pu_mw, pu_b1, if_neg w1] <;> rfl
