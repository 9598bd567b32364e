def pu_by (a b : Int64) : Int64 := if a / b * b ≤ a then a / b else a / b - 1
theorem pu_pos {b : Int64} (hb : 0 < b.toInt) : b ≠ 0 := by
  intro h
  rw [h] at hb
  exact absurd hb (by decide)
theorem pu_mby (a : Int64) {b : Int64} (hb : 0 < b.toInt) : fn_Model_by a b = some (pu_by a b) := by
  unfold fn_Model_by pu_by
  rw [if_neg (pu_pos hb)]
  by_cases h : a / b * b ≤ a
  · rw [if_pos ((lg_cmp_le _ _).2 h), if_pos h]
    rfl
  · rw [if_neg (fun x => h ((lg_cmp_le _ _).1 x)), if_neg h]
    rfl
theorem pu_xor (a b : Int64) : (a ^^^ b).toInt < 0 ↔ ¬ (a.toInt < 0 ↔ b.toInt < 0) := by
  have h : (a.toBitVec ^^^ b.toBitVec).msb = (a.toBitVec.msb ^^ b.toBitVec.msb) := BitVec.msb_xor
  rw [BitVec.msb_eq_toInt, BitVec.msb_eq_toInt, BitVec.msb_eq_toInt] at h
  have h2 : decide ((a ^^^ b).toInt < 0) = (decide (a.toInt < 0) ^^ decide (b.toInt < 0)) := h
  clear h
  by_cases h4 : a.toInt < 0 <;> by_cases h5 : b.toInt < 0
  · rw [decide_eq_true h4, decide_eq_true h5] at h2
    have h6 := of_decide_eq_false h2
    omega
  · rw [decide_eq_true h4, decide_eq_false h5] at h2
    have h6 := of_decide_eq_true h2
    omega
  · rw [decide_eq_false h4, decide_eq_true h5] at h2
    have h6 := of_decide_eq_true h2
    omega
  · rw [decide_eq_false h4, decide_eq_false h5] at h2
    have h6 := of_decide_eq_false h2
    omega
theorem pu_dm {a b : Int64} (hb : 0 < b.toInt) : (0 ≤ a.toInt → (a / b * b).toInt ≤ a.toInt) ∧ (a.toInt < 0 → a.toInt ≤ (a / b * b).toInt) := by
  have hn : b ≠ -1 := by
    intro h
    rw [h] at hb
    exact absurd hb (by decide)
  have hm : (a / b * b).toInt = (a.toInt.tdiv b.toInt * b.toInt).bmod (2 ^ 64) := by
    rw [Int64.toInt_mul, Int64.toInt_div_of_ne_right _ _ hn]
  have l1 := a.le_toInt
  have l2 := a.toInt_lt
  constructor
  · intro h
    have g1 : a.toInt / b.toInt * b.toInt ≤ a.toInt := Int.ediv_mul_le _ (by omega)
    have g2 : 0 ≤ a.toInt / b.toInt * b.toInt := Int.mul_nonneg (Int.ediv_nonneg h (by omega)) (by omega)
    rw [Int.tdiv_eq_ediv_of_nonneg h] at hm
    generalize a.toInt / b.toInt * b.toInt = t at hm g1 g2
    rw [Int.bmod_eq_of_le_mul_two (by omega) (by omega)] at hm
    omega
  · intro h
    have g1 : (-a.toInt) / b.toInt * b.toInt ≤ -a.toInt := Int.ediv_mul_le _ (by omega)
    have g2 : 0 ≤ (-a.toInt) / b.toInt * b.toInt := Int.mul_nonneg (Int.ediv_nonneg (by omega) (by omega)) (by omega)
    have e : a.toInt.tdiv b.toInt * b.toInt = -((-a.toInt) / b.toInt * b.toInt) := by
      rw [← Int.tdiv_eq_ediv_of_nonneg (by omega), Int.neg_tdiv, Int.neg_mul, Int.neg_neg]
    rw [e] at hm
    generalize (-a.toInt) / b.toInt * b.toInt = t at hm g1 g2
    rw [Int.bmod_eq_of_le_mul_two (by omega) (by omega)] at hm
    omega
theorem pu_rby (a : Int64) {b : Int64} (hb : 0 < b.toInt) : fn_Room_by a b = some (pu_by a b) := by
  have hz := pu_pos hb
  have z : (0 : Int64).toInt = 0 := rfl
  have h1 : ¬ lg_cmp b (0 : Int64) ≤ 0 := by
    rw [lg_cmp_le, Int64.le_iff_toInt_le]
    omega
  have hd := pu_dm (a := a) hb
  have hx := pu_xor a b
  unfold fn_Room_by fn_Math_floorDiv pu_by
  rw [if_neg h1, if_neg hz]
  by_cases ha : 0 ≤ a.toInt
  · have c1 : 0 ≤ lg_cmp (a ^^^ b) (0 : Int64) := by
      rw [lg_cmp_ge, Int64.le_iff_toInt_le]
      omega
    have c2 : a / b * b ≤ a := by
      rw [Int64.le_iff_toInt_le]
      exact hd.1 ha
    rw [if_pos c1, if_pos c2]
    rfl
  · have c1 : ¬ 0 ≤ lg_cmp (a ^^^ b) (0 : Int64) := by
      rw [lg_cmp_ge, Int64.le_iff_toInt_le]
      omega
    rw [if_neg c1]
    by_cases c2 : a / b * b = a
    · have c3 : a / b * b ≤ a := by
        rw [c2]
        exact Int64.le_refl a
      rw [if_pos ((lg_cmp_eq _ _).2 c2), if_pos c3]
      rfl
    · have c3 : ¬ a / b * b ≤ a := by
        intro h
        apply c2
        rw [Int64.le_iff_toInt_le] at h
        apply Int64.toInt_inj.1
        have h9 := hd.2 (by omega)
        omega
      rw [if_neg (fun x => c2 ((lg_cmp_eq _ _).1 x)), if_neg c3]
      rfl
theorem pu_add {x y : Int32} (h1 : -2147483648 ≤ x.toInt + y.toInt) (h2 : x.toInt + y.toInt < 2147483648) : (x + y).toInt = x.toInt + y.toInt := by
  rw [Int32.toInt_add]
  exact Int.bmod_eq_of_le_mul_two (by omega) (by omega)
theorem pu_sub {x y : Int32} (h1 : -2147483648 ≤ x.toInt - y.toInt) (h2 : x.toInt - y.toInt < 2147483648) : (x - y).toInt = x.toInt - y.toInt := by
  rw [Int32.toInt_sub]
  exact Int.bmod_eq_of_le_mul_two (by omega) (by omega)
theorem pu_mul {x y : Int32} (h1 : -2147483648 ≤ x.toInt * y.toInt) (h2 : x.toInt * y.toInt < 2147483648) : (x * y).toInt = x.toInt * y.toInt := by
  rw [Int32.toInt_mul]
  generalize x.toInt * y.toInt = t at h1 h2
  exact Int.bmod_eq_of_le_mul_two (by omega) (by omega)
theorem pu_ix {x : Int32} {n : Nat} (h0 : 0 ≤ x.toInt) (h : x.toInt < n) : gx_ix x n = true := by
  unfold gx_ix
  apply decide_eq_true
  have z : (0 : Int32).toInt = 0 := rfl
  have e : x.toNatClampNeg = x.toInt.toNat := rfl
  rintro (g | g)
  · rw [Int32.lt_iff_toInt_lt] at g
    omega
  · omega
theorem pu_rin (x a b : Int32) : fn_Room_requireWithin x a b = if a ≤ x ∧ x ≤ b then some (.inr ()) else some (.inl 3) := by
  unfold fn_Room_requireWithin
  by_cases h1 : x < a
  · rw [if_pos h1, if_neg (fun h => absurd h1 (Int32.not_lt.2 h.1))]
  · rw [if_neg h1]
    by_cases h2 : x ≤ b
    · rw [if_pos h2, if_pos ⟨Int32.not_lt.1 h1, h2⟩]
      rfl
    · rw [if_neg h2, if_neg (fun h => h2 h.2)]
theorem pu_rix (x n : Int32) : fn_Room_requireIndex x n = if 0 ≤ x ∧ x < n then some (.inr ()) else some (.inl 1) := by
  unfold fn_Room_requireIndex
  by_cases h1 : x < 0
  · rw [if_pos h1, if_neg (fun h => absurd h1 (Int32.not_lt.2 h.1))]
  · rw [if_neg h1]
    by_cases h2 : x < n
    · rw [if_pos h2, if_pos ⟨Int32.not_lt.1 h1, h2⟩]
      rfl
    · rw [if_neg h2, if_neg (fun h => h2 h.2)]
theorem pu_rsp (x n : Int32) : fn_Room_requireSpace x n = if x < n then some (.inr ()) else some (.inl 2) := rfl
theorem pu_bz0 : gx_bz 0 = true := by decide
theorem pu_bz1 : gx_bz 1 = true := by decide
theorem pu_mw (x a b : Int32) : fn_Model_within x a b = some (if a ≤ x ∧ x ≤ b then 1 else 0) := by
  unfold fn_Model_within
  by_cases h1 : x < a
  · rw [if_pos h1, if_neg (fun h => absurd h1 (Int32.not_lt.2 h.1))]
    rfl
  · rw [if_neg h1]
    by_cases h2 : b < x
    · rw [if_pos h2, if_neg (fun h => absurd h2 (Int32.not_lt.2 h.2))]
      rfl
    · rw [if_neg h2, if_pos ⟨Int32.not_lt.1 h1, Int32.not_lt.1 h2⟩]
      rfl
theorem pu_goes (a b c : Int32) : fn_Model_goes a b c = some (if a = 0 then (0, 1) else if b = 0 then (0, 2) else if c = 0 then (0, 3) else (1, 0)) := by
  unfold fn_Model_goes
  by_cases h1 : a = 0
  · rw [if_pos h1, if_pos h1]
    rfl
  · rw [if_neg h1, if_neg h1]
    by_cases h2 : b = 0
    · rw [if_pos h2, if_pos h2]
      rfl
    · rw [if_neg h2, if_neg h2]
      by_cases h3 : c = 0
      · rw [if_pos h3, if_pos h3]
        rfl
      · rw [if_neg h3, if_neg h3]
        rfl
theorem pu_if01 {c : Prop} [Decidable c] {a : Int32} (h : a = if c then 1 else 0) : a = 0 ∨ a = 1 := by
  by_cases g : c
  · rw [if_pos g] at h
    exact Or.inr h
  · rw [if_neg g] at h
    exact Or.inl h
theorem pu_bz {c : Prop} [Decidable c] : gx_bz (if c then 1 else 0) = true := by
  by_cases g : c
  · rw [if_pos g]
    exact pu_bz1
  · rw [if_neg g]
    exact pu_bz0
theorem pu_ml (x : Int32) : fn_Model_isLevel x = some (if -60000 ≤ x ∧ x ≤ 60000 then 1 else 0) := by
  unfold fn_Model_isLevel
  rw [pu_mw]
  exact if_pos pu_bz
theorem pu_pred {x n : Int32} (h : 0 ≤ n.toInt) : x ≤ n - 1 ↔ x < n := by
  have z : (1 : Int32).toInt = 1 := rfl
  have u := n.toInt_lt
  rw [Int32.le_iff_toInt_le, Int32.lt_iff_toInt_lt, pu_sub (by omega) (by omega)]
  omega
theorem pu_mla {n x : Int32} (h : 0 ≤ n.toInt) : fn_Model_isLayer n x = some (if 0 ≤ x ∧ x < n then 1 else 0) := by
  unfold fn_Model_isLayer
  rw [pu_mw]
  simp only [pu_pred h]
  exact if_pos pu_bz
theorem pu_mwh {n x : Int32} (h : 0 ≤ n.toInt) : fn_Model_wasHour n x = some (if 0 ≤ x ∧ x < n then 1 else 0) := by
  unfold fn_Model_wasHour
  rw [pu_mw]
  simp only [pu_pred h]
  exact if_pos pu_bz
