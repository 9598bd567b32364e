theorem pu_pt0 {v : Int32} (hv : 0 < v.toInt) {h w : Int64} {now : Nat → Int64} (q0 : now 0 = h) (q1 : now 1 = w) {n0 n1 n2 n3 : Int32} {f0 g0 f1 g1 f2 g2 f3 g3 n' f' g' : Nat → Int32} (r0 : pu_Rrk 0 n0 f0 g0 n' f' g') (r1 : pu_Rrk 1 n1 f1 g1 n' f' g') (r2 : pu_Rrk 2 n2 f2 g2 n' f' g') (r3 : pu_Rrk 3 n3 f3 g3 n' f' g') (p : Nat) (sums : Nat → Int32) : ∃ y, fn_Room_addRiskPoints_L2 v w h n0 f0 g0 n1 f1 g1 n2 f2 g2 n3 f3 g3 (p + 1) (0 : Int32) sums = fn_Room_addRiskPoints_L2 v w h n0 f0 g0 n1 f1 g1 n2 f2 g2 n3 f3 g3 p (0 + 1 : Int32) (upd sums (0 : Int32).toNatClampNeg (sums (0 : Int32).toNatClampNeg + y)) ∧ fn_Model_addPoints_L2 v now n' f' g' (p + 1) (0 : Int32) sums = fn_Model_addPoints_L2 v now n' f' g' p (0 + 1 : Int32) (upd sums (0 : Int32).toNatClampNeg (sums (0 : Int32).toNatClampNeg + y)) := by
  have k4 : ¬ (4 : Int32) ≤ (0 : Int32) := by decide
  have k2 : ¬ (2 : Int32) ≤ (0 : Int32) := by decide
  have kl : (0 : Int32) < (2 : Int32) := by decide
  have ki : gx_ix (0 : Int32) 4 = true := by decide
  have e0 : (0 : Int32) = 0 := by decide
  have b0 := r0.2.1
  have b5 := r0.2.2.1
  have z : (0 : Int32).toInt = 0 := rfl
  have z5 : ((5 : Int32) * (0 : Int32)).toInt = 0 := rfl
  obtain ⟨y, y1, y2⟩ := pu_rkM (r := 0) (by decide) r0 (i1 := (0 : Int32)) rfl sums (pu_by w v.toInt64) (fn_Model_addPoints_L2 v now n' f' g' p) n0.toInt.toNat 400 (by omega) 0 0 ((5 : Int32) * (0 : Int32)) (by omega) (by omega) (by omega)
  refine ⟨y, ?_, ?_⟩
  · rw [fn_Room_addRiskPoints_L2, if_neg k4, if_pos kl, pu_b1]
    simp only [if_pos pu_z0, pu_mois hv, pu_warm hv, pu_b1, if_pos ki, if_pos e0, fn_Steps_amountFrom, y1, ↓reduceIte]
  · rw [fn_Model_addPoints_L2, if_neg k4, if_neg k2, pu_mdam hv, q1, pu_b1, pu_b1]
    exact y2
theorem pu_pt1 {v : Int32} (hv : 0 < v.toInt) {h w : Int64} {now : Nat → Int64} (q0 : now 0 = h) (q1 : now 1 = w) {n0 n1 n2 n3 : Int32} {f0 g0 f1 g1 f2 g2 f3 g3 n' f' g' : Nat → Int32} (r0 : pu_Rrk 0 n0 f0 g0 n' f' g') (r1 : pu_Rrk 1 n1 f1 g1 n' f' g') (r2 : pu_Rrk 2 n2 f2 g2 n' f' g') (r3 : pu_Rrk 3 n3 f3 g3 n' f' g') (p : Nat) (sums : Nat → Int32) : ∃ y, fn_Room_addRiskPoints_L2 v w h n0 f0 g0 n1 f1 g1 n2 f2 g2 n3 f3 g3 (p + 1) (1 : Int32) sums = fn_Room_addRiskPoints_L2 v w h n0 f0 g0 n1 f1 g1 n2 f2 g2 n3 f3 g3 p (1 + 1 : Int32) (upd sums (1 : Int32).toNatClampNeg (sums (1 : Int32).toNatClampNeg + y)) ∧ fn_Model_addPoints_L2 v now n' f' g' (p + 1) (1 : Int32) sums = fn_Model_addPoints_L2 v now n' f' g' p (1 + 1 : Int32) (upd sums (1 : Int32).toNatClampNeg (sums (1 : Int32).toNatClampNeg + y)) := by
  have k4 : ¬ (4 : Int32) ≤ (1 : Int32) := by decide
  have k2 : ¬ (2 : Int32) ≤ (1 : Int32) := by decide
  have kl : (1 : Int32) < (2 : Int32) := by decide
  have ki : gx_ix (1 : Int32) 4 = true := by decide
  have e0 : ¬ (1 : Int32) = 0 := by decide
  have e1 : (1 : Int32) = 1 := by decide
  have b0 := r1.2.1
  have b5 := r1.2.2.1
  have z : (0 : Int32).toInt = 0 := rfl
  have z5 : ((5 : Int32) * (1 : Int32)).toInt = 5 := rfl
  obtain ⟨y, y1, y2⟩ := pu_rkM (r := 1) (by decide) r1 (i1 := (1 : Int32)) rfl sums (pu_by w v.toInt64) (fn_Model_addPoints_L2 v now n' f' g' p) n1.toInt.toNat 400 (by omega) 0 0 ((5 : Int32) * (1 : Int32)) (by omega) (by omega) (by omega)
  refine ⟨y, ?_, ?_⟩
  · rw [fn_Room_addRiskPoints_L2, if_neg k4, if_pos kl, pu_b1]
    simp only [if_pos pu_z0, pu_mois hv, pu_warm hv, pu_b1, if_pos ki, if_neg e0, if_pos e1, fn_Steps_amountFrom, y1, ↓reduceIte]
  · rw [fn_Model_addPoints_L2, if_neg k4, if_neg k2, pu_mdam hv, q1, pu_b1, pu_b1]
    exact y2
theorem pu_pt2 {v : Int32} (hv : 0 < v.toInt) {h w : Int64} {now : Nat → Int64} (q0 : now 0 = h) (q1 : now 1 = w) {n0 n1 n2 n3 : Int32} {f0 g0 f1 g1 f2 g2 f3 g3 n' f' g' : Nat → Int32} (r0 : pu_Rrk 0 n0 f0 g0 n' f' g') (r1 : pu_Rrk 1 n1 f1 g1 n' f' g') (r2 : pu_Rrk 2 n2 f2 g2 n' f' g') (r3 : pu_Rrk 3 n3 f3 g3 n' f' g') (p : Nat) (sums : Nat → Int32) : ∃ y, fn_Room_addRiskPoints_L2 v w h n0 f0 g0 n1 f1 g1 n2 f2 g2 n3 f3 g3 (p + 1) (2 : Int32) sums = fn_Room_addRiskPoints_L2 v w h n0 f0 g0 n1 f1 g1 n2 f2 g2 n3 f3 g3 p (2 + 1 : Int32) (upd sums (2 : Int32).toNatClampNeg (sums (2 : Int32).toNatClampNeg + y)) ∧ fn_Model_addPoints_L2 v now n' f' g' (p + 1) (2 : Int32) sums = fn_Model_addPoints_L2 v now n' f' g' p (2 + 1 : Int32) (upd sums (2 : Int32).toNatClampNeg (sums (2 : Int32).toNatClampNeg + y)) := by
  have k4 : ¬ (4 : Int32) ≤ (2 : Int32) := by decide
  have k2 : (2 : Int32) ≤ (2 : Int32) := by decide
  have kl : ¬ (2 : Int32) < (2 : Int32) := by decide
  have ki : gx_ix (2 : Int32) 4 = true := by decide
  have e0 : ¬ (2 : Int32) = 0 := by decide
  have e1 : ¬ (2 : Int32) = 1 := by decide
  have e2 : (2 : Int32) = 2 := by decide
  have b0 := r2.2.1
  have b5 := r2.2.2.1
  have z : (0 : Int32).toInt = 0 := rfl
  have z5 : ((5 : Int32) * (2 : Int32)).toInt = 10 := rfl
  obtain ⟨y, y1, y2⟩ := pu_rkM (r := 2) (by decide) r2 (i1 := (2 : Int32)) rfl sums (pu_by h v.toInt64) (fn_Model_addPoints_L2 v now n' f' g' p) n2.toInt.toNat 400 (by omega) 0 0 ((5 : Int32) * (2 : Int32)) (by omega) (by omega) (by omega)
  refine ⟨y, ?_, ?_⟩
  · rw [fn_Room_addRiskPoints_L2, if_neg k4, if_neg kl, pu_b1]
    simp only [if_neg pu_n0, pu_mois hv, pu_warm hv, pu_b1, if_pos ki, if_neg e0, if_neg e1, if_pos e2, fn_Steps_amountFrom, y1, ↓reduceIte]
  · rw [fn_Model_addPoints_L2, if_neg k4, if_pos k2, pu_mdeg hv, q0, pu_b1, pu_b1]
    exact y2
theorem pu_pt3 {v : Int32} (hv : 0 < v.toInt) {h w : Int64} {now : Nat → Int64} (q0 : now 0 = h) (q1 : now 1 = w) {n0 n1 n2 n3 : Int32} {f0 g0 f1 g1 f2 g2 f3 g3 n' f' g' : Nat → Int32} (r0 : pu_Rrk 0 n0 f0 g0 n' f' g') (r1 : pu_Rrk 1 n1 f1 g1 n' f' g') (r2 : pu_Rrk 2 n2 f2 g2 n' f' g') (r3 : pu_Rrk 3 n3 f3 g3 n' f' g') (p : Nat) (sums : Nat → Int32) : ∃ y, fn_Room_addRiskPoints_L2 v w h n0 f0 g0 n1 f1 g1 n2 f2 g2 n3 f3 g3 (p + 1) (3 : Int32) sums = fn_Room_addRiskPoints_L2 v w h n0 f0 g0 n1 f1 g1 n2 f2 g2 n3 f3 g3 p (3 + 1 : Int32) (upd sums (3 : Int32).toNatClampNeg (sums (3 : Int32).toNatClampNeg + y)) ∧ fn_Model_addPoints_L2 v now n' f' g' (p + 1) (3 : Int32) sums = fn_Model_addPoints_L2 v now n' f' g' p (3 + 1 : Int32) (upd sums (3 : Int32).toNatClampNeg (sums (3 : Int32).toNatClampNeg + y)) := by
  have k4 : ¬ (4 : Int32) ≤ (3 : Int32) := by decide
  have k2 : (2 : Int32) ≤ (3 : Int32) := by decide
  have kl : ¬ (3 : Int32) < (2 : Int32) := by decide
  have ki : gx_ix (3 : Int32) 4 = true := by decide
  have e0 : ¬ (3 : Int32) = 0 := by decide
  have e1 : ¬ (3 : Int32) = 1 := by decide
  have e2 : ¬ (3 : Int32) = 2 := by decide
  have e3 : (3 : Int32) = 3 := by decide
  have b0 := r3.2.1
  have b5 := r3.2.2.1
  have z : (0 : Int32).toInt = 0 := rfl
  have z5 : ((5 : Int32) * (3 : Int32)).toInt = 15 := rfl
  obtain ⟨y, y1, y2⟩ := pu_rkM (r := 3) (by decide) r3 (i1 := (3 : Int32)) rfl sums (pu_by h v.toInt64) (fn_Model_addPoints_L2 v now n' f' g' p) n3.toInt.toNat 400 (by omega) 0 0 ((5 : Int32) * (3 : Int32)) (by omega) (by omega) (by omega)
  refine ⟨y, ?_, ?_⟩
  · rw [fn_Room_addRiskPoints_L2, if_neg k4, if_neg kl, pu_b1]
    simp only [if_neg pu_n0, pu_mois hv, pu_warm hv, pu_b1, if_pos ki, if_neg e0, if_neg e1, if_neg e2, if_pos e3, fn_Steps_amountFrom, y1, ↓reduceIte]
  · rw [fn_Model_addPoints_L2, if_neg k4, if_pos k2, pu_mdeg hv, q0, pu_b1, pu_b1]
    exact y2
theorem pu_pts {v : Int32} (hv : 0 < v.toInt) {h w : Int64} {now : Nat → Int64} (q0 : now 0 = h) (q1 : now 1 = w) {n0 n1 n2 n3 : Int32} {f0 g0 f1 g1 f2 g2 f3 g3 n' f' g' : Nat → Int32} (r0 : pu_Rrk 0 n0 f0 g0 n' f' g') (r1 : pu_Rrk 1 n1 f1 g1 n' f' g') (r2 : pu_Rrk 2 n2 f2 g2 n' f' g') (r3 : pu_Rrk 3 n3 f3 g3 n' f' g') (sums : Nat → Int32) : ∃ s', fn_Room_addRiskPoints v h w sums n0 f0 g0 n1 f1 g1 n2 f2 g2 n3 f3 g3 = some s' ∧ fn_Model_addPoints v now n' sums f' g' = some s' := by
  obtain ⟨y0, a1, a2⟩ := pu_pt0 hv q0 q1 r0 r1 r2 r3 399 sums
  obtain ⟨y1, b1, b2⟩ := pu_pt1 hv q0 q1 r0 r1 r2 r3 398 (upd sums (0 : Int32).toNatClampNeg (sums (0 : Int32).toNatClampNeg + y0))
  obtain ⟨y2, c1, c2⟩ := pu_pt2 hv q0 q1 r0 r1 r2 r3 397 (upd (upd sums (0 : Int32).toNatClampNeg (sums (0 : Int32).toNatClampNeg + y0)) (1 : Int32).toNatClampNeg (upd sums (0 : Int32).toNatClampNeg (sums (0 : Int32).toNatClampNeg + y0) (1 : Int32).toNatClampNeg + y1))
  obtain ⟨y3, d1, d2⟩ := pu_pt3 hv q0 q1 r0 r1 r2 r3 396 (upd (upd (upd sums (0 : Int32).toNatClampNeg (sums (0 : Int32).toNatClampNeg + y0)) (1 : Int32).toNatClampNeg (upd sums (0 : Int32).toNatClampNeg (sums (0 : Int32).toNatClampNeg + y0) (1 : Int32).toNatClampNeg + y1)) (2 : Int32).toNatClampNeg (upd (upd sums (0 : Int32).toNatClampNeg (sums (0 : Int32).toNatClampNeg + y0)) (1 : Int32).toNatClampNeg (upd sums (0 : Int32).toNatClampNeg (sums (0 : Int32).toNatClampNeg + y0) (1 : Int32).toNatClampNeg + y1) (2 : Int32).toNatClampNeg + y2))
  refine ⟨_, a1.trans (b1.trans (c1.trans (d1.trans rfl))), a2.trans (b2.trans (c2.trans (d2.trans rfl)))⟩
