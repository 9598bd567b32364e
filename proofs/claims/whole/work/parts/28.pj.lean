theorem pu_mono {r : Nat} {n : Int32} {f g n' f' g' : Nat → Int32} (hR : pu_Rrk r n f g n' f' g') (k : Nat) : ∀ d : Nat, ((k + d : Nat) : Int) < n.toInt → (f k).toInt ≤ (f (k + d)).toInt
  | 0, _ => Int.le_refl _
  | d + 1, h => by
    have h1 := pu_mono hR k d (by omega)
    have h2 := hR.2.2.2.2 (k + d) (by omega)
    have e : k + (d + 1) = k + d + 1 := rfl
    rw [e]
    omega
theorem pu_rkE {r : Nat} (hr : r < 4) {n : Int32} {f g n' f' g' : Nat → Int32} (hR : pu_Rrk r n f g n' f' g') {i1 : Int32} (hi : i1.toInt = r) : (5 * i1).toInt = 5 * r ∧ ((5 : Int32) * i1 + n' i1.toNatClampNeg).toInt = 5 * r + n.toInt ∧ i1.toNatClampNeg = r ∧ gx_ix i1 4 = true := by
  have t : i1.toNatClampNeg = i1.toInt.toNat := rfl
  have t2 : i1.toNatClampNeg = r := by omega
  have z5 : (5 : Int32).toInt = 5 := rfl
  have e1 : (5 * i1).toInt = 5 * r := by
    rw [pu_mul (by rw [z5]; omega) (by rw [z5]; omega), z5, hi]
  obtain ⟨a1, a2, a3, a4⟩ := hR
  have e2 : ((5 : Int32) * i1 + n' i1.toNatClampNeg).toInt = 5 * r + n.toInt := by
    rw [t2, a1, pu_add (by omega) (by omega), e1]
  exact ⟨e1, e2, t2, pu_ix (by omega) (by omega)⟩
theorem pu_rkT {r : Nat} (hr : r < 4) {n : Int32} {f g n' f' g' : Nat → Int32} (hR : pu_Rrk r n f g n' f' g') {i1 : Int32} (hi : i1.toInt = r) (sums : Nat → Int32) (x : Int64) (k2 : Int32 → (Nat → Int32) → Option (Nat → Int32)) (cur : Int32) (t : Nat) : ∀ p : Nat, t < p → ∀ (k : Nat) (K : Int32), K.toInt = 5 * r + k → (k : Int) + t = n.toInt → (∀ j : Nat, k ≤ j → (j : Int) < n.toInt → x < (f j).toInt64) → fn_Model_addPoints_L32 i1 sums x n' f' g' k2 p cur K = k2 (i1 + 1) (upd sums i1.toNatClampNeg (sums i1.toNatClampNeg + cur)) := by
  obtain ⟨e1, e2, e3, i4⟩ := pu_rkE hr hR hi
  have z1 : (1 : Int32).toInt = 1 := rfl
  have hn5 := hR.2.2.1
  induction t with
  | zero =>
    intro p hp k K hK hk hf
    obtain ⟨p, rfl⟩ : ∃ p', p = p' + 1 := ⟨p - 1, by omega⟩
    have c1 : (5 : Int32) * i1 + n' i1.toNatClampNeg ≤ K := by
      rw [Int32.le_iff_toInt_le]
      omega
    rw [fn_Model_addPoints_L32, if_pos i4, if_pos c1]
  | succ t ih =>
    intro p hp k K hK hk hf
    obtain ⟨p, rfl⟩ : ∃ p', p = p' + 1 := ⟨p - 1, by omega⟩
    have c1 : ¬ (5 : Int32) * i1 + n' i1.toNatClampNeg ≤ K := by
      rw [Int32.le_iff_toInt_le]
      omega
    have kt : K.toNatClampNeg = K.toInt.toNat := rfl
    have kt2 : K.toNatClampNeg = 5 * r + k := by omega
    have k1 : (K + 1).toInt = K.toInt + 1 := by
      rw [pu_add (by omega) (by omega), z1]
    have ix : gx_ix K 20 = true := pu_ix (by omega) (by omega)
    have c2 : 0 < lg_cmp (f' K.toNatClampNeg).toInt64 x := by
      rw [lg_cmp_gt, kt2, (hR.2.2.2.1 k (by omega)).1]
      exact hf k (Nat.le_refl k) (by omega)
    rw [fn_Model_addPoints_L32, if_pos i4, if_neg c1, if_pos ix, if_pos c2, pu_b1]
    exact ih p (by omega) (k + 1) (K + 1) (by omega) (by omega) (fun j hj hj2 => hf j (by omega) hj2)
theorem pu_rkM {r : Nat} (hr : r < 4) {n : Int32} {f g n' f' g' : Nat → Int32} (hR : pu_Rrk r n f g n' f' g') {i1 : Int32} (hi : i1.toInt = r) (sums : Nat → Int32) (x : Int64) (k2 : Int32 → (Nat → Int32) → Option (Nat → Int32)) (t : Nat) : ∀ p : Nat, t < p → ∀ (cur k K : Int32), 0 ≤ k.toInt → K.toInt = 5 * r + k.toInt → k.toInt + t = n.toInt → ∃ y, fn_Steps_amountFrom_L5 x n f g 5 p cur k = some y ∧ fn_Model_addPoints_L32 i1 sums x n' f' g' k2 p cur K = k2 (i1 + 1) (upd sums i1.toNatClampNeg (sums i1.toNatClampNeg + y)) := by
  obtain ⟨e1, e2, e3, i4⟩ := pu_rkE hr hR hi
  have z1 : (1 : Int32).toInt = 1 := rfl
  have hn5 := hR.2.2.1
  induction t with
  | zero =>
    intro p hp cur k K h0 hK hk
    obtain ⟨p, rfl⟩ : ∃ p', p = p' + 1 := ⟨p - 1, by omega⟩
    have c1 : (5 : Int32) * i1 + n' i1.toNatClampNeg ≤ K := by
      rw [Int32.le_iff_toInt_le]
      omega
    have c2 : n ≤ k := by
      rw [Int32.le_iff_toInt_le]
      omega
    refine ⟨cur, ?_, ?_⟩
    · rw [fn_Steps_amountFrom_L5, if_pos c2]
    · rw [fn_Model_addPoints_L32, if_pos i4, if_pos c1]
  | succ t ih =>
    intro p hp cur k K h0 hK hk
    have c1 : ¬ (5 : Int32) * i1 + n' i1.toNatClampNeg ≤ K := by
      rw [Int32.le_iff_toInt_le]
      omega
    have c2 : ¬ n ≤ k := by
      rw [Int32.le_iff_toInt_le]
      omega
    have kt : K.toNatClampNeg = K.toInt.toNat := rfl
    have kt3 : k.toNatClampNeg = k.toInt.toNat := rfl
    have kt2 : K.toNatClampNeg = 5 * r + k.toNatClampNeg := by omega
    have k1 : (K + 1).toInt = K.toInt + 1 := by
      rw [pu_add (by omega) (by omega), z1]
    have k3 : (k + 1).toInt = k.toInt + 1 := by
      rw [pu_add (by omega) (by omega), z1]
    have ix : gx_ix K 20 = true := pu_ix (by omega) (by omega)
    have ix5 : gx_ix k 5 = true := pu_ix h0 (by omega)
    obtain ⟨q1, q2⟩ := hR.2.2.2.1 k.toNatClampNeg (by omega)
    by_cases c3 : x < (f k.toNatClampNeg).toInt64
    · refine ⟨cur, ?_, ?_⟩
      · obtain ⟨p, rfl⟩ : ∃ p', p = p' + 1 := ⟨p - 1, by omega⟩
        rw [fn_Steps_amountFrom_L5, if_neg c2, if_pos ix5, if_pos ((lg_cmp_gt _ _).2 c3)]
      · refine pu_rkT hr hR hi sums x k2 cur (t + 1) p hp k.toNatClampNeg K (by omega) (by omega) (fun j hj hj2 => ?_)
        have m := pu_mono hR k.toNatClampNeg (j - k.toNatClampNeg) (by omega)
        rw [show k.toNatClampNeg + (j - k.toNatClampNeg) = j by omega] at m
        rw [Int64.lt_iff_toInt_lt, Int32.toInt_toInt64] at c3 ⊢
        omega
    · obtain ⟨p, rfl⟩ : ∃ p', p = p' + 1 := ⟨p - 1, by omega⟩
      have c4 : ¬ 0 < lg_cmp (f k.toNatClampNeg).toInt64 x := fun hh => c3 ((lg_cmp_gt _ _).1 hh)
      rw [fn_Steps_amountFrom_L5, if_neg c2, if_pos ix5, if_neg c4, fn_Model_addPoints_L32, if_pos i4, if_neg c1, if_pos ix, kt2, q1, if_neg c4, pu_b1, q2]
      exact ih p (by omega) (g k.toNatClampNeg) (k + 1) (K + 1) (by omega) (by omega) (by omega)
theorem pu_cnt_ge (f : Nat → Int32) (k : Nat) : ∀ n : Nat, n ≤ k → pu_cnt (upd f k 1) n = pu_cnt f n
  | 0, _ => rfl
  | n + 1, h => by
    rw [pu_cnt, pu_cnt, pu_cnt_ge f k n (by omega), pk_un (by omega)]
theorem pu_cnt_lt (f : Nat → Int32) (k : Nat) : ∀ n : Nat, k < n → pu_cnt (upd f k 1) n = if f k = 0 then pu_cnt f n + 1 else pu_cnt f n
  | n + 1, h => by
    rw [pu_cnt, pu_cnt]
    by_cases hq : n = k
    · rw [hq, pk_us, if_neg pu_n0, pu_cnt_ge f k k (Nat.le_refl k)]
      by_cases c : f k = 0
      · rw [if_pos c, if_pos c]
      · rw [if_neg c, if_neg c]
    · rw [pk_un hq, pu_cnt_lt f k n (by omega)]
      by_cases c : f k = 0
      · rw [if_pos c, if_pos c]
        by_cases c2 : f n = 0
        · rw [if_pos c2, if_pos c2]
        · rw [if_neg c2, if_neg c2]
      · rw [if_neg c, if_neg c]
