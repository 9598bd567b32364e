def pu_isL (k : Nat → Int32) (b : Nat) (r : Int32) : Prop := (r = -1 ∧ ∀ j : Nat, j < b → k j = 0) ∨ (∃ m : Nat, r.toInt = m ∧ m < b ∧ k m ≠ 0 ∧ ∀ j : Nat, m < j → j < b → k j = 0)
def pu_isF (k : Nat → Int32) (x b : Nat) (r : Int32) : Prop := (r = -1 ∧ ∀ j : Nat, x ≤ j → j < b → k j = 0) ∨ (∃ m : Nat, r.toInt = m ∧ x ≤ m ∧ m < b ∧ k m ≠ 0 ∧ ∀ j : Nat, x ≤ j → j < m → k j = 0)
theorem pu_L0 {k : Nat → Int32} {b : Nat} {l : Int32} (h : pu_isL k b l) (z : k b = 0) : pu_isL k (b + 1) l := by
  rcases h with ⟨h1, h2⟩ | ⟨m, h1, h2, h3, h4⟩
  · refine Or.inl ⟨h1, fun j hj => ?_⟩
    by_cases c : j = b
    · rw [c]
      exact z
    · exact h2 j (by omega)
  · refine Or.inr ⟨m, h1, by omega, h3, fun j hm hj => ?_⟩
    by_cases c : j = b
    · rw [c]
      exact z
    · exact h4 j hm (by omega)
theorem pu_L1 {k : Nat → Int32} {b : Nat} {i : Int32} (e : i.toInt = b) (z : k b ≠ 0) : pu_isL k (b + 1) i :=
  Or.inr ⟨b, e, by omega, z, fun j hm hj => absurd hm (by omega)⟩
theorem pu_F0 {k : Nat → Int32} {x b : Nat} {l : Int32} (h : pu_isF k x b l) (z : k b = 0) : pu_isF k x (b + 1) l := by
  rcases h with ⟨h1, h2⟩ | ⟨m, h1, h2, h3, h4, h5⟩
  · refine Or.inl ⟨h1, fun j hx hj => ?_⟩
    by_cases c : j = b
    · rw [c]
      exact z
    · exact h2 j hx (by omega)
  · exact Or.inr ⟨m, h1, h2, by omega, h4, h5⟩
theorem pu_Fa {k : Nat → Int32} {x b : Nat} {l : Int32} (h : pu_isF k x b l) (z : b < x) : pu_isF k x (b + 1) l := by
  rcases h with ⟨h1, h2⟩ | ⟨m, h1, h2, h3, h4, h5⟩
  · exact Or.inl ⟨h1, fun j hx hj => absurd hx (by omega)⟩
  · exact Or.inr ⟨m, h1, h2, by omega, h4, h5⟩
theorem pu_Fb {k : Nat → Int32} {x b : Nat} {i : Int32} (h : pu_isF k x b (-1)) (z : k b ≠ 0) (hx : x ≤ b) (e : i.toInt = b) : pu_isF k x (b + 1) i := by
  rcases h with ⟨h1, h2⟩ | ⟨m, h1, h2, h3, h4, h5⟩
  · exact Or.inr ⟨b, e, hx, by omega, z, h2⟩
  · have e9 : (-1 : Int32).toInt = -1 := by decide
    omega
theorem pu_Fc {k : Nat → Int32} {x b : Nat} {l : Int32} (h : pu_isF k x b l) (z : l ≠ -1) : pu_isF k x (b + 1) l := by
  rcases h with ⟨h1, h2⟩ | ⟨m, h1, h2, h3, h4, h5⟩
  · exact absurd h1 z
  · exact Or.inr ⟨m, h1, h2, by omega, h4, h5⟩
theorem pu_Lu {k : Nat → Int32} {b : Nat} {r s : Int32} (h : pu_isL k b r) (g : pu_isL k b s) : r = s := by
  rcases h with ⟨h1, h2⟩ | ⟨m, h1, h2, h3, h4⟩ <;> rcases g with ⟨g1, g2⟩ | ⟨n, g1, g2, g3, g4⟩
  · rw [h1, g1]
  · exact absurd (h2 n g2) g3
  · exact absurd (g2 m h2) h3
  · apply Int32.toInt_inj.1
    by_cases c1 : m < n
    · exact absurd (h4 n c1 g2) g3
    · by_cases c2 : n < m
      · exact absurd (g4 m c2 h2) h3
      · omega
theorem pu_Fu {k : Nat → Int32} {x b : Nat} {r s : Int32} (h : pu_isF k x b r) (g : pu_isF k x b s) : r = s := by
  rcases h with ⟨h1, h2⟩ | ⟨m, h1, h2, h3, h4, h5⟩ <;> rcases g with ⟨g1, g2⟩ | ⟨n, g1, g2, g3, g4, g5⟩
  · rw [h1, g1]
  · exact absurd (h2 n g2 g3) g4
  · exact absurd (g2 m h2 h3) h4
  · apply Int32.toInt_inj.1
    by_cases c1 : m < n
    · exact absurd (g5 m h2 c1) h4
    · by_cases c2 : n < m
      · exact absurd (h5 n g2 c2) g4
      · omega
theorem pu_lcu (k : Nat → Int32) (b : Nat) (t : Nat) : ∀ p : Nat, t < p → ∀ i : Int32, i.toInt = (t : Int) - 1 → t ≤ 300 → t ≤ b → (∀ j : Nat, t ≤ j → j < b → k j = 0) → ∃ r, fn_Gauge_lastCheckUpTo_L2 k p i = some r ∧ pu_isL k b r := by
  have z : (0 : Int32).toInt = 0 := rfl
  have z1 : (-1 : Int32).toInt = -1 := by decide
  induction t with
  | zero =>
    intro p hp i hi h3 hb hz
    obtain ⟨p, rfl⟩ : ∃ p', p = p' + 1 := ⟨p - 1, by omega⟩
    have c1 : i < 0 := by
      rw [Int32.lt_iff_toInt_lt]
      omega
    refine ⟨-1, ?_, Or.inl ⟨rfl, fun j hj => hz j (by omega) hj⟩⟩
    rw [fn_Gauge_lastCheckUpTo_L2, if_pos c1]
  | succ t ih =>
    intro p hp i hi h3 hb hz
    obtain ⟨p, rfl⟩ : ∃ p', p = p' + 1 := ⟨p - 1, by omega⟩
    have c1 : ¬ i < 0 := by
      rw [Int32.lt_iff_toInt_lt]
      omega
    have it : i.toNatClampNeg = i.toInt.toNat := rfl
    have e : i.toNatClampNeg = t := by omega
    have ix : gx_ix i 300 = true := pu_ix (by omega) (by omega)
    rw [fn_Gauge_lastCheckUpTo_L2, if_neg c1, if_pos ix, e]
    by_cases c2 : k t = 0
    · rw [if_pos c2]
      refine ih p (by omega) _ ?_ (by omega) (by omega) ?_
      · rw [pu_add (by omega) (by omega), z1]
        omega
      · intro j hj hb
        by_cases c3 : j = t
        · rw [c3]
          exact c2
        · exact hz j (by omega) hb
    · rw [if_neg c2]
      exact ⟨i, rfl, Or.inr ⟨t, by omega, by omega, c2, fun j hj hb => hz j (by omega) hb⟩⟩
theorem pu_fcf (k : Nat → Int32) {h : Int32} (hh : h.toInt ≤ 300) (x t : Nat) : ∀ p : Nat, t < p → ∀ i : Int32, 0 ≤ i.toInt → i.toInt + t = h.toInt → x ≤ i.toInt.toNat → (∀ j : Nat, x ≤ j → j < i.toInt.toNat → k j = 0) → ∃ r, fn_Gauge_firstCheckFrom_L2 h k p i = some r ∧ pu_isF k x h.toInt.toNat r := by
  have z1 : (1 : Int32).toInt = 1 := rfl
  induction t with
  | zero =>
    intro p hp i h0 hi hx hz
    obtain ⟨p, rfl⟩ : ∃ p', p = p' + 1 := ⟨p - 1, by omega⟩
    have c1 : h ≤ i := by
      rw [Int32.le_iff_toInt_le]
      omega
    refine ⟨-1, ?_, Or.inl ⟨rfl, fun j hj hb => hz j hj (by omega)⟩⟩
    rw [fn_Gauge_firstCheckFrom_L2, if_pos c1]
  | succ t ih =>
    intro p hp i h0 hi hx hz
    obtain ⟨p, rfl⟩ : ∃ p', p = p' + 1 := ⟨p - 1, by omega⟩
    have c1 : ¬ h ≤ i := by
      rw [Int32.le_iff_toInt_le]
      omega
    have it : i.toNatClampNeg = i.toInt.toNat := rfl
    have k1 : (i + 1).toInt = i.toInt + 1 := by
      rw [pu_add (by omega) (by omega), z1]
    have ix : gx_ix i 300 = true := pu_ix (by omega) (by omega)
    rw [fn_Gauge_firstCheckFrom_L2, if_neg c1, if_pos ix, it]
    by_cases c2 : k i.toInt.toNat = 0
    · rw [if_pos c2]
      refine ih p (by omega) _ (by omega) (by omega) (by omega) ?_
      intro j hj hb
      by_cases c3 : j = i.toInt.toNat
      · rw [c3]
        exact c2
      · exact hz j (by omega) (by omega)
    · rw [if_neg c2]
      exact ⟨i, rfl, Or.inr ⟨i.toInt.toNat, by omega, by omega, by omega, c2, hz⟩⟩
def pu_cd (v r : Nat → Int32) (x l f : Int32) : Int32 := if l = -1 then (if f = -1 then 0 else r f.toNatClampNeg - v f.toNatClampNeg) else if f = -1 then r l.toNatClampNeg - v l.toNatClampNeg else if f = l then r l.toNatClampNeg - v l.toNatClampNeg else (r l.toNatClampNeg - v l.toNatClampNeg) + (pu_by (((r f.toNatClampNeg - v f.toNatClampNeg) - (r l.toNatClampNeg - v l.toNatClampNeg)).toInt64 * (x - l).toInt64) (f - l).toInt64).toInt32
theorem pu_drift {k r v : Nat → Int32} {x h l f : Int32} (g1 : fn_Gauge_lastCheckUpTo k x = some l) (g2 : fn_Gauge_firstCheckFrom k x h = some f) (q1 : l ≠ -1 → 0 ≤ l.toInt ∧ l.toInt < 300) (q2 : f ≠ -1 → 0 ≤ f.toInt ∧ f.toInt < 300) (q3 : l ≠ -1 → f ≠ -1 → l.toInt ≤ f.toInt) : fn_Gauge_drift k r v x h = some (pu_cd v r x l f) := by
  unfold fn_Gauge_drift pu_cd
  rw [g1, g2, pu_b1, pu_b1]
  by_cases c1 : l = -1
  · rw [if_pos c1, if_pos c1]
    by_cases c2 : f = -1
    · rw [if_pos c2, if_pos c2]
      rfl
    · have i2 : gx_ix f 300 = true := pu_ix (q2 c2).1 (q2 c2).2
      rw [if_neg c2, if_neg c2, fn_Gauge_driftOfCheck, if_pos i2]
      rfl
  · have i1 : gx_ix l 300 = true := pu_ix (q1 c1).1 (q1 c1).2
    rw [if_neg c1, if_neg c1]
    by_cases c2 : f = -1
    · rw [if_pos c2, if_pos c2, fn_Gauge_driftOfCheck, if_pos i1]
      rfl
    · have i2 : gx_ix f 300 = true := pu_ix (q2 c2).1 (q2 c2).2
      rw [if_neg c2, if_neg c2]
      by_cases c3 : f = l
      · rw [if_pos c3, if_pos c3, fn_Gauge_driftOfCheck, if_pos i1]
        rfl
      · have n3 : f.toInt ≠ l.toInt := fun hh => c3 (Int32.toInt_inj.1 hh)
        have p1 := q1 c1
        have p2 := q2 c2
        have p3 := q3 c1 c2
        have hb : 0 < (f - l).toInt64.toInt := by
          rw [Int32.toInt_toInt64, pu_sub (by omega) (by omega)]
          omega
        rw [if_neg c3, if_neg c3]
        simp only [fn_Gauge_driftOfCheck, if_pos i1, if_pos i2, pu_b1, pu_rby _ hb]
theorem pu_s64 {x y : Int32} (h1 : -2147483648 ≤ x.toInt - y.toInt) (h2 : x.toInt - y.toInt < 2147483648) : (x - y).toInt64 = x.toInt64 - y.toInt64 := by
  apply Int64.toInt_inj.1
  rw [Int32.toInt_toInt64, pu_sub h1 h2, Int64.toInt_sub, Int32.toInt_toInt64, Int32.toInt_toInt64]
  exact (Int.bmod_eq_of_le_mul_two (by omega) (by omega)).symm
theorem pu_mcz {k r v : Nat → Int32} {x h l f : Int32} (u : Int32) (p : Nat) (ix : gx_ix x 300 = true) (q1 : l ≠ -1 → 0 ≤ l.toInt ∧ l.toInt < 300) (q2 : f ≠ -1 → 0 ≤ f.toInt ∧ f.toInt < 300) (q3 : l ≠ -1 → f ≠ -1 → l.toInt ≤ f.toInt) (d1 : l ≠ -1 → -500000 ≤ (r l.toNatClampNeg - v l.toNatClampNeg).toInt ∧ (r l.toNatClampNeg - v l.toNatClampNeg).toInt ≤ 500000) (d2 : f ≠ -1 → -500000 ≤ (r f.toNatClampNeg - v f.toNatClampNeg).toInt ∧ (r f.toNatClampNeg - v f.toNatClampNeg).toInt ≤ 500000) : fn_Model_corrected_L37 x h u v r k (p + 1) l f h = some (v x.toNatClampNeg + pu_cd v r x l f, u) := by
  unfold pu_cd
  rw [fn_Model_corrected_L37, if_pos (Int32.le_refl h)]
  by_cases c1 : l = -1
  · rw [if_pos c1, if_pos c1]
    by_cases c2 : f = -1
    · rw [if_pos c2, if_pos c2, if_pos ix, Int32.add_zero]
    · have i2 : gx_ix f 300 = true := pu_ix (q2 c2).1 (q2 c2).2
      rw [if_neg c2, if_neg c2, if_pos i2, if_pos rfl, pu_b1, if_pos ix, Int64.add_zero, Int32.toInt32_toInt64]
  · have i1 : gx_ix l 300 = true := pu_ix (q1 c1).1 (q1 c1).2
    rw [if_neg c1, if_neg c1]
    by_cases c2 : f = -1
    · rw [if_pos c2, if_pos c2, pu_b1, if_pos i1, if_pos i1, if_pos rfl, pu_b1, if_pos ix, Int64.add_zero, Int32.toInt32_toInt64]
    · have i2 : gx_ix f 300 = true := pu_ix (q2 c2).1 (q2 c2).2
      rw [if_neg c2, if_neg c2, pu_b1, if_pos i1, if_pos i2]
      by_cases c3 : f = l
      · rw [if_pos c3, if_pos c3.symm, pu_b1, if_pos ix, Int64.add_zero, Int32.toInt32_toInt64]
      · have n3 : f.toInt ≠ l.toInt := fun hh => c3 (Int32.toInt_inj.1 hh)
        have p1 := q1 c1
        have p2 := q2 c2
        have p3 := q3 c1 c2
        have p4 := d1 c1
        have p5 := d2 c2
        have hb : 0 < (f - l).toInt64.toInt := by
          rw [Int32.toInt_toInt64, pu_sub (by omega) (by omega)]
          omega
        rw [if_neg c3, if_neg (fun hh => c3 hh.symm), pu_mby _ hb, pu_b1, pu_b1, if_pos ix, Int64.toInt32_add, Int32.toInt32_toInt64, pu_s64 (x := r f.toNatClampNeg - v f.toNatClampNeg) (y := r l.toNatClampNeg - v l.toNatClampNeg) (by omega) (by omega)]
theorem pu_mcl {h : Int32} {k : Nat → Int32} (hh : h.toInt ≤ 300) {x : Int32} (x0 : 0 ≤ x.toInt) (xh : x.toInt < h.toInt) (u : Int32) (v r : Nat → Int32) (t : Nat) : ∀ p : Nat, t < p → ∀ (l f i : Int32), 0 ≤ i.toInt → i.toInt + t = h.toInt → pu_isL k (min i.toInt.toNat (x.toInt.toNat + 1)) l → pu_isF k x.toInt.toNat i.toInt.toNat f → ∃ (l' f' : Int32) (p' : Nat), pu_isL k (x.toInt.toNat + 1) l' ∧ pu_isF k x.toInt.toNat h.toInt.toNat f' ∧ fn_Model_corrected_L37 x h u v r k p l f i = fn_Model_corrected_L37 x h u v r k (p' + 1) l' f' h := by
  have z1 : (1 : Int32).toInt = 1 := rfl
  induction t with
  | zero =>
    intro p hp l f i h0 hi hl hf
    obtain ⟨p, rfl⟩ : ∃ p', p = p' + 1 := ⟨p - 1, by omega⟩
    have e : i = h := Int32.toInt_inj.1 (by omega)
    rw [e] at hl hf ⊢
    rw [Nat.min_eq_right (by omega)] at hl
    exact ⟨l, f, p, hl, hf, rfl⟩
  | succ t ih =>
    intro p hp l f i h0 hi hl hf
    obtain ⟨p, rfl⟩ : ∃ p', p = p' + 1 := ⟨p - 1, by omega⟩
    have c1 : ¬ h ≤ i := by
      rw [Int32.le_iff_toInt_le]
      omega
    have it : i.toNatClampNeg = i.toInt.toNat := rfl
    have k1 : (i + 1).toInt = i.toInt + 1 := by
      rw [pu_add (by omega) (by omega), z1]
    have k2 : (i + 1).toInt.toNat = i.toInt.toNat + 1 := by omega
    have ii : i.toInt = (i.toInt.toNat : Int) := by omega
    have ix : gx_ix i 300 = true := pu_ix (by omega) (by omega)
    rw [fn_Model_corrected_L37, if_neg c1, if_pos ix, it]
    by_cases c2 : k i.toInt.toNat = 0
    · rw [if_pos c2, if_pos c2, pu_b1, pu_b1]
      refine ih p (by omega) _ _ _ (by omega) (by omega) ?_ ?_
      · rw [k2]
        by_cases c3 : i.toInt.toNat ≤ x.toInt.toNat
        · rw [Nat.min_eq_left (by omega)] at hl ⊢
          exact pu_L0 hl c2
        · rw [Nat.min_eq_right (by omega)] at hl ⊢
          exact hl
      · rw [k2]
        exact pu_F0 hf c2
    · rw [if_neg c2, if_neg c2]
      have hL : ∃ w, (if x < i then some l else some i) = some w ∧ pu_isL k (min (i.toInt.toNat + 1) (x.toInt.toNat + 1)) w := by
        by_cases c3 : x < i
        · rw [if_pos c3]
          rw [Int32.lt_iff_toInt_lt] at c3
          refine ⟨l, rfl, ?_⟩
          rw [Nat.min_eq_right (by omega)] at hl ⊢
          exact hl
        · rw [if_neg c3]
          rw [Int32.lt_iff_toInt_lt] at c3
          refine ⟨i, rfl, ?_⟩
          rw [Nat.min_eq_left (by omega)]
          exact pu_L1 ii c2
      obtain ⟨w, w1, w2⟩ := hL
      rw [w1, pu_b1, pu_b1]
      by_cases c4 : i < x
      · rw [if_pos c4, pu_b1, pu_b1]
        rw [Int32.lt_iff_toInt_lt] at c4
        refine ih p (by omega) _ _ _ (by omega) (by omega) ?_ ?_
        · rw [k2]
          exact w2
        · rw [k2]
          exact pu_Fa hf (by omega)
      · rw [if_neg c4]
        rw [Int32.lt_iff_toInt_lt] at c4
        by_cases c5 : f = -1
        · rw [if_pos c5, pu_b1, pu_b1, pu_b1]
          refine ih p (by omega) _ _ _ (by omega) (by omega) ?_ ?_
          · rw [k2]
            exact w2
          · rw [k2]
            rw [c5] at hf
            exact pu_Fb hf c2 (by omega) ii
        · rw [if_neg c5, pu_b1, pu_b1, pu_b1]
          refine ih p (by omega) _ _ _ (by omega) (by omega) ?_ ?_
          · rw [k2]
            exact w2
          · rw [k2]
            exact pu_Fc hf c5
theorem pu_cdv {v v' r : Nat → Int32} {x l f : Int32} (h1 : l ≠ -1 → v' l.toNatClampNeg = v l.toNatClampNeg) (h2 : f ≠ -1 → v' f.toNatClampNeg = v f.toNatClampNeg) : pu_cd v' r x l f = pu_cd v r x l f := by
  unfold pu_cd
  by_cases c1 : l = -1
  · rw [if_pos c1, if_pos c1]
    by_cases c2 : f = -1
    · rw [if_pos c2, if_pos c2]
    · rw [if_neg c2, if_neg c2, h2 c2]
  · rw [if_neg c1, if_neg c1, h1 c1]
    by_cases c2 : f = -1
    · rw [if_pos c2, if_pos c2]
    · rw [if_neg c2, if_neg c2, h2 c2]
theorem ps_corrected {I : Nat → Int32} {J : Nat → Int64} {A : Nat → Nat → Int32} {L : Nat → Nat → Int64} {i : Nat → Int32} {a : Nat → Nat → Int32} {l9 : Nat → Nat → Int64} (h : pu_Rel I J A L i a l9) (o : Nat → Int64) (x1 : Int32) : st_corrected pu_Rel I J A L i a l9 o x1 := by
  obtain ⟨h1, h2, h3, h4, h5, h6, h7, h8, h9, h10, h11, h12, h13, h14, h15, h16, h17⟩ := h
  unfold st_corrected
  obtain ⟨e1, e2, e3, b0, b3, b4, b5, b6, b7⟩ := h17
  have h17 : pu_Rgau (I 0) (I 15) (A 33) (A 34) (A 35) (A 36) (i 6) (a 17) (a 18) (a 19) := ⟨e1, e2, e3, b0, b3, b4, b5, b6, b7⟩
  have z : (0 : Int32).toInt = 0 := rfl
  by_cases c1 : 0 ≤ x1 ∧ x1 < I 0
  · obtain ⟨g0, g1, g2⟩ := pu_nn c1
    have xt : x1.toNatClampNeg = x1.toInt.toNat := rfl
    have ix : gx_ix x1 300 = true := pu_ix g0 (by omega)
    have hv := pu_sv h17 x1.toNatClampNeg (by omega)
    by_cases c2 : A 34 x1.toNatClampNeg = 0
    · refine Or.inl ⟨vp_updL o (0 : Int32).toNatClampNeg (-200000 : Int32).toInt64, -200000, 0, ?_, ?_, rfl, (lg_cmp_eq _ _).2 pk_uLs, ⟨h1, h2, h3, h4, h5, h6, h7, h8, h9, h10, h11, h12, h13, h14, h15, h16, h17⟩⟩
      · simp only [fn_Law_corrected, fn_Room_corrected, pu_rix, if_pos c1, if_pos ix, if_pos c2] <;> rfl
      · simp only [fn_Model_corrected, e1, pu_mwh b0, pu_b1, if_pos c1, pu_goes, if_neg pu_n0, pu_b2, if_pos ix, if_pos (hv.2 c2)] <;> rfl
    · obtain ⟨l, y1, y2⟩ := pu_lcu (A 36) (x1.toInt.toNat + 1) (x1.toInt.toNat + 1) 400 (by omega) x1 (by omega) (by omega) (by omega) (fun j hj hb => absurd hj (by omega))
      obtain ⟨f, y3, y4⟩ := pu_fcf (A 36) (h := I 0) b3 x1.toInt.toNat ((I 0).toInt - x1.toInt).toNat 400 (by omega) x1 (by omega) (by omega) (by omega) (fun j hj hb => absurd hj (by omega))
      obtain ⟨l', f', p', w1, w2, w3⟩ := pu_mcl (h := I 0) (k := A 36) b3 g0 g1 0 (a 17) (A 35) (I 0).toInt.toNat 400 (by omega) (-1) (-1) 0 (by omega) (by omega) (Or.inl ⟨rfl, fun j hj => absurd hj (by rw [z]; omega)⟩) (Or.inl ⟨rfl, fun j hj hb => absurd hb (by rw [z]; omega)⟩)
      rw [← pu_Lu y2 w1, ← pu_Fu y4 w2] at w3
      have q1 : l ≠ -1 → 0 ≤ l.toInt ∧ l.toInt ≤ x1.toInt ∧ A 36 l.toNatClampNeg ≠ 0 := by
        intro hn
        rcases y2 with ⟨m1, m2⟩ | ⟨m, m1, m2, m3, m4⟩
        · exact absurd m1 hn
        · have lt : l.toNatClampNeg = l.toInt.toNat := rfl
          have le : l.toNatClampNeg = m := by omega
          rw [le]
          exact ⟨by omega, by omega, m3⟩
      have q2 : f ≠ -1 → x1.toInt ≤ f.toInt ∧ f.toInt < (I 0).toInt ∧ A 36 f.toNatClampNeg ≠ 0 := by
        intro hn
        rcases y4 with ⟨m1, m2⟩ | ⟨m, m1, m2, m3, m4, m5⟩
        · exact absurd m1 hn
        · have lt : f.toNatClampNeg = f.toInt.toNat := rfl
          have le : f.toNatClampNeg = m := by omega
          rw [le]
          exact ⟨by omega, by omega, m4⟩
      have q3 : l ≠ -1 → f ≠ -1 → l.toInt ≤ f.toInt := by
        intro n1 n2
        have := q1 n1
        have := q2 n2
        omega
      have ev : ∀ j : Nat, j < 300 → A 36 j ≠ 0 → a 17 j = A 33 j := by
        intro j hj hk
        rw [b4 j hj, if_neg (b6 j hj hk).1]
      have ed : ∀ j : Nat, j < 300 → A 36 j ≠ 0 → -500000 ≤ (A 35 j - a 17 j).toInt ∧ (A 35 j - a 17 j).toInt ≤ 500000 := by
        intro j hj hk
        have m1 := b6 j hj hk
        have m2 := b5 j hj m1.1
        rw [ev j hj hk, pu_sub (by omega) (by omega)]
        omega
      have lt : l.toNatClampNeg = l.toInt.toNat := rfl
      have ft : f.toNatClampNeg = f.toInt.toNat := rfl
      have Q1 : l ≠ -1 → 0 ≤ l.toInt ∧ l.toInt < 300 := fun n => ⟨(q1 n).1, by have := q1 n; omega⟩
      have Q2 : f ≠ -1 → 0 ≤ f.toInt ∧ f.toInt < 300 := fun n => ⟨by have := q2 n; omega, by have := q2 n; omega⟩
      have D := pu_drift (k := A 36) (r := A 35) (v := A 33) (x := x1) (h := I 0) (l := l) (f := f) y1 y3 Q1 Q2 q3
      have M := pu_mcz (k := A 36) (r := A 35) (v := a 17) (x := x1) (h := I 0) (l := l) (f := f) 0 p' ix Q1 Q2 q3 (fun n => ed _ (by have := Q1 n; omega) (q1 n).2.2) (fun n => ed _ (by have := Q2 n; omega) (q2 n).2.2)
      rw [pu_cdv (v := A 33) (fun n => ev _ (by have := Q1 n; omega) (q1 n).2.2) (fun n => ev _ (by have := Q2 n; omega) (q2 n).2.2), b4 _ (by omega), if_neg c2] at M
      rw [M] at w3
      refine Or.inl ⟨vp_updL o (0 : Int32).toNatClampNeg (A 33 x1.toNatClampNeg + pu_cd (A 33) (A 35) x1 l f).toInt64, A 33 x1.toNatClampNeg + pu_cd (A 33) (A 35) x1 l f, 0, ?_, ?_, rfl, (lg_cmp_eq _ _).2 pk_uLs, ⟨h1, h2, h3, h4, h5, h6, h7, h8, h9, h10, h11, h12, h13, h14, h15, h16, h17⟩⟩
      · simp only [fn_Law_corrected, fn_Room_corrected, pu_rix, if_pos c1, if_pos ix, if_neg c2, D] <;> rfl
      · simp only [fn_Model_corrected, e1, e2, e3, pu_mwh b0, pu_b1, if_pos c1, pu_goes, if_neg pu_n0, pu_b2, if_pos ix, if_neg (fun hh => c2 (hv.1 hh)), w3] <;> rfl
  · refine Or.inr ⟨0, 1, ?_, ?_, rfl, ⟨h1, h2, h3, h4, h5, h6, h7, h8, h9, h10, h11, h12, h13, h14, h15, h16, h17⟩⟩
    · simp only [fn_Room_corrected, pu_rix, if_neg c1] <;> rfl
    · simp only [fn_Model_corrected, e1, pu_mwh b0, pu_b1, if_neg c1] <;> rfl
