theorem pu_walls {w g : Int64} {ru : Nat → Int32} {v n : Int32} {c d : Nat → Int32} (hv : 0 < v.toInt) (hn5 : n.toInt ≤ 5) (hd : ∀ k : Nat, (k : Int) < n.toInt → 0 < (d k).toInt) (x : Int32) (r : Nat) : ∀ (f : Nat), r < f → ∀ (k : Int32) (F : Nat → Int64) (h : Int64) (hb now bk : Nat → Int64), 0 ≤ k.toInt → k.toInt + r = n.toInt → pu_Rnow h w g F ru now → ∃ F' h' hb' now' bk', fn_Walls_conduct_L2 x n c d v f k F h hb = some (F', h', hb') ∧ fn_Model_walls_L2 x n c d v f k now bk = some (now', bk') ∧ pu_Rnow h' w g F' ru now' ∧ ∀ wb, pu_Rbook hb wb bk → pu_Rbook hb' wb bk' := by
  have z : (0 : Int32).toInt = 0 := rfl
  have z1 : (1 : Int32).toInt = 1 := rfl
  induction r with
  | zero =>
    intro f hf k F h hb now bk hk0 hkr hN
    obtain ⟨f, rfl⟩ : ∃ f', f = f' + 1 := ⟨f - 1, by omega⟩
    have c1 : n ≤ k := Int32.le_iff_toInt_le.2 (by omega)
    rw [fn_Walls_conduct_L2, fn_Model_walls_L2, if_pos c1, if_pos c1]
    by_cases c2 : n ≤ 0
    · rw [if_pos c2, if_pos c2]
      exact ⟨F, h, hb, now, bk, rfl, rfl, hN, fun _ hB => hB⟩
    · rw [if_neg c2, if_neg c2]
      have c3 : 0 < n.toInt := by
        rw [Int32.le_iff_toInt_le] at c2
        omega
      have e1 : (n - 1).toInt = n.toInt - 1 := pu_sub (by omega) (by omega)
      have e3 := pu_a3 (k := n - 1) (n := 3) 3 rfl (by omega) (by omega) (by omega)
      have et : (n - 1).toNatClampNeg = (n - 1).toInt.toNat := rfl
      have hd1 : 0 < (d (n - 1).toNatClampNeg).toInt := hd _ (by omega)
      have b0 : 0 ≤ (n - 1).toInt := by omega
      have b5 : (n - 1).toInt < 5 := by omega
      have i5 : gx_ix (n - 1) 5 = true := pu_ix b0 b5
      have i12 : gx_ix (3 + (n - 1)) 12 = true := pu_ix (by omega) (by omega)
      simp only [if_pos i5, if_pos i12, pu_lw b0 b5 hd1, pu_mlw b0 b5 hd1, pu_rby _ pu_100, pu_mby _ pu_100, pu_b1, pu_b2, e3.2, hN.2.2.2.1 (n - 1).toNatClampNeg (by omega)]
      exact ⟨_, _, _, _, _, rfl, rfl, pu_nF hN _ (by omega) _, fun _ hB => hB⟩
  | succ r ih =>
    intro f hf k F h hb now bk hk0 hkr hN
    obtain ⟨f, rfl⟩ : ∃ f', f = f' + 1 := ⟨f - 1, by omega⟩
    have c1 : ¬ n ≤ k := by
      rw [Int32.le_iff_toInt_le]
      omega
    have k1 : (k + 1).toInt = k.toInt + 1 := by
      rw [pu_add (by omega) (by omega), z1]
    have kt : k.toNatClampNeg = k.toInt.toNat := rfl
    have e3 := pu_a3 (k := k) (n := 3) 3 rfl (by omega) hk0 (by omega)
    have b5 : k.toInt < 5 := by omega
    have hdk : 0 < (d k.toNatClampNeg).toInt := hd _ (by omega)
    have i5 : gx_ix k 5 = true := pu_ix hk0 b5
    have i12 : gx_ix (3 + k) 12 = true := pu_ix (by omega) (by omega)
    by_cases c2 : k = 0
    · obtain ⟨now1, bk1, q1, q2, q3⟩ := pu_chg hN bk (k := 1) (by decide) (by decide) (0 - pu_by ((c k.toNatClampNeg).toInt64 * (pu_by h v.toInt64 - pu_by (F k.toNatClampNeg) (d k.toNatClampNeg).toInt64)) 100) 0
      have E1 : fn_Walls_conduct_L2 x n c d v (f + 1) k F h hb = fn_Walls_conduct_L2 x n c d v f (k + 1) (vp_updL F k.toNatClampNeg (F k.toNatClampNeg + pu_by ((c k.toNatClampNeg).toInt64 * (pu_by h v.toInt64 - pu_by (F k.toNatClampNeg) (d k.toNatClampNeg).toInt64)) 100)) (h + -pu_by ((c k.toNatClampNeg).toInt64 * (pu_by h v.toInt64 - pu_by (F k.toNatClampNeg) (d k.toNatClampNeg).toInt64)) 100) (vp_updL hb (1 : Int32).toNatClampNeg (hb (1 : Int32).toNatClampNeg + -pu_by ((c k.toNatClampNeg).toInt64 * (pu_by h v.toInt64 - pu_by (F k.toNatClampNeg) (d k.toNatClampNeg).toInt64)) 100)) := by
        rw [fn_Walls_conduct_L2, if_neg c1]
        simp only [if_pos c2, pu_warm hv, if_pos i5, pu_lw hk0 b5 hdk, pu_rby _ pu_100, fn_Interior_gainHeat, if_pos pu_g1, pu_b1, pu_b2, pu_b3]
      have E2 : fn_Model_walls_L2 x n c d v (f + 1) k now bk = fn_Model_walls_L2 x n c d v f (k + 1) (vp_updL now1 (3 + k.toNatClampNeg) (now1 (3 + k.toNatClampNeg) + pu_by ((c k.toNatClampNeg).toInt64 * (pu_by h v.toInt64 - pu_by (F k.toNatClampNeg) (d k.toNatClampNeg).toInt64)) 100)) bk1 := by
        rw [fn_Model_walls_L2, if_neg c1]
        simp only [if_pos c2, pu_mdeg hv, if_pos i5, pu_mlw hk0 b5 hdk, pu_mby _ pu_100, hN.1, hN.2.2.2.1 k.toNatClampNeg (by omega), pu_b1, pu_b2, q1, if_pos i12, e3.2]
      rw [q2.2.2.2.1 k.toNatClampNeg (by omega)] at E2
      rw [E1, E2]
      have q4 := pu_nF q2 k.toNatClampNeg (by omega) (F k.toNatClampNeg + pu_by ((c k.toNatClampNeg).toInt64 * (pu_by h v.toInt64 - pu_by (F k.toNatClampNeg) (d k.toNatClampNeg).toInt64)) 100)
      rw [Int64.zero_sub, Int64.add_zero] at q4
      obtain ⟨F', h', hb', now', bk', p1, p2, p3, p4⟩ := ih f (by omega) (k + 1) _ _ (vp_updL hb (1 : Int32).toNatClampNeg (hb (1 : Int32).toNatClampNeg + -pu_by ((c k.toNatClampNeg).toInt64 * (pu_by h v.toInt64 - pu_by (F k.toNatClampNeg) (d k.toNatClampNeg).toInt64)) 100)) _ bk1 (by omega) (by omega) q4
      refine ⟨F', h', hb', now', bk', p1, p2, p3, fun wb hB => p4 wb ?_⟩
      have q5 := q3 hb wb hB
      rw [pu_upd0, Int64.zero_sub] at q5
      exact q5
    · have c3 : 1 ≤ k.toInt := by
        have hne : k.toInt ≠ 0 := fun hh => c2 (Int32.toInt_inj.1 (hh.trans z.symm))
        omega
      have m1 : (k - 1).toInt = k.toInt - 1 := by
        rw [pu_sub (by omega) (by omega), z1]
      have mt : (k - 1).toNatClampNeg = (k - 1).toInt.toNat := rfl
      have e2 := pu_a3 (k := k) (n := 2) 2 rfl (by omega) hk0 (by omega)
      have e2' : (2 + k).toNatClampNeg = 3 + (k - 1).toNatClampNeg := by omega
      have d0 : 0 ≤ (k - 1).toInt := by omega
      have d5 : (k - 1).toInt < 5 := by omega
      have hdm : 0 < (d (k - 1).toNatClampNeg).toInt := hd _ (by omega)
      have j5 : gx_ix (k - 1) 5 = true := pu_ix d0 d5
      have j12 : gx_ix (2 + k) 12 = true := pu_ix (by omega) (by omega)
      have E1 : fn_Walls_conduct_L2 x n c d v (f + 1) k F h hb = fn_Walls_conduct_L2 x n c d v f (k + 1) (vp_updL (vp_updL F (k - 1).toNatClampNeg (F (k - 1).toNatClampNeg - pu_by ((c k.toNatClampNeg).toInt64 * (pu_by (F (k - 1).toNatClampNeg) (d (k - 1).toNatClampNeg).toInt64 - pu_by (F k.toNatClampNeg) (d k.toNatClampNeg).toInt64)) 100)) k.toNatClampNeg ((vp_updL F (k - 1).toNatClampNeg (F (k - 1).toNatClampNeg - pu_by ((c k.toNatClampNeg).toInt64 * (pu_by (F (k - 1).toNatClampNeg) (d (k - 1).toNatClampNeg).toInt64 - pu_by (F k.toNatClampNeg) (d k.toNatClampNeg).toInt64)) 100)) k.toNatClampNeg + pu_by ((c k.toNatClampNeg).toInt64 * (pu_by (F (k - 1).toNatClampNeg) (d (k - 1).toNatClampNeg).toInt64 - pu_by (F k.toNatClampNeg) (d k.toNatClampNeg).toInt64)) 100)) h hb := by
        rw [fn_Walls_conduct_L2, if_neg c1]
        simp only [if_neg c2, pu_lw d0 d5 hdm, if_pos i5, if_pos j5, pu_lw hk0 b5 hdk, pu_rby _ pu_100, pu_b1, pu_b3]
      have E2 : fn_Model_walls_L2 x n c d v (f + 1) k now bk = fn_Model_walls_L2 x n c d v f (k + 1) (vp_updL (vp_updL now (3 + (k - 1).toNatClampNeg) (F (k - 1).toNatClampNeg - pu_by ((c k.toNatClampNeg).toInt64 * (pu_by (F (k - 1).toNatClampNeg) (d (k - 1).toNatClampNeg).toInt64 - pu_by (F k.toNatClampNeg) (d k.toNatClampNeg).toInt64)) 100)) (3 + k.toNatClampNeg) ((vp_updL now (3 + (k - 1).toNatClampNeg) (F (k - 1).toNatClampNeg - pu_by ((c k.toNatClampNeg).toInt64 * (pu_by (F (k - 1).toNatClampNeg) (d (k - 1).toNatClampNeg).toInt64 - pu_by (F k.toNatClampNeg) (d k.toNatClampNeg).toInt64)) 100)) (3 + k.toNatClampNeg) + pu_by ((c k.toNatClampNeg).toInt64 * (pu_by (F (k - 1).toNatClampNeg) (d (k - 1).toNatClampNeg).toInt64 - pu_by (F k.toNatClampNeg) (d k.toNatClampNeg).toInt64)) 100)) bk := by
        rw [fn_Model_walls_L2, if_neg c1]
        simp only [if_neg c2, pu_mlw d0 d5 hdm, if_pos i5, if_pos j12, pu_mlw hk0 b5 hdk, pu_mby _ pu_100, pu_b1, pu_b2, hN.2.2.2.1 (k - 1).toNatClampNeg (by omega), hN.2.2.2.1 k.toNatClampNeg (by omega), if_pos i12, e3.2, e2']
      rw [E1, E2]
      have q2 := pu_nF hN (k - 1).toNatClampNeg (by omega) (F (k - 1).toNatClampNeg - pu_by ((c k.toNatClampNeg).toInt64 * (pu_by (F (k - 1).toNatClampNeg) (d (k - 1).toNatClampNeg).toInt64 - pu_by (F k.toNatClampNeg) (d k.toNatClampNeg).toInt64)) 100)
      rw [q2.2.2.2.1 k.toNatClampNeg (by omega)]
      exact ih f (by omega) (k + 1) _ h hb _ bk (by omega) (by omega) (pu_nF q2 k.toNatClampNeg (by omega) _)
theorem pu_amt {n : Int32} {f m : Nat → Int32} (hn6 : n.toInt ≤ 6) (g : Int32) (x : Int64) (r : Nat) : ∀ (p : Nat), r + 1 < p → ∀ (k : Int32), 0 ≤ k.toInt → k.toInt + r + 1 = n.toInt → ∃ y, fn_Steps_amountUpTo_L2 x n m f 6 p k = some y ∧ fn_Model_due_L7 x n g m f p k = some (g.toInt64 * y.toInt64) := by
  have z : (0 : Int32).toInt = 0 := rfl
  have z1 : (1 : Int32).toInt = 1 := rfl
  induction r with
  | zero =>
    intro p hp k hk0 hkr
    obtain ⟨p, rfl⟩ : ∃ p', p = p' + 2 := ⟨p - 2, by omega⟩
    have e1 : (n - 1).toInt = n.toInt - 1 := by
      rw [pu_sub (by omega) (by omega), z1]
    have ek : n - 1 = k := Int32.toInt_inj.1 (by omega)
    have k1 : (k + 1).toInt = k.toInt + 1 := by
      rw [pu_add (by omega) (by omega), z1]
    have c1 : ¬ n ≤ k := by
      rw [Int32.le_iff_toInt_le]
      omega
    have c2 : n ≤ k + 1 := by
      rw [Int32.le_iff_toInt_le]
      omega
    have c3 : ¬ n ≤ 0 := by
      rw [Int32.le_iff_toInt_le]
      omega
    have c4 : ¬ n = 0 := by
      intro hh
      rw [hh] at hkr
      omega
    have i6 : gx_ix k 6 = true := pu_ix hk0 (by omega)
    refine ⟨m k.toNatClampNeg, ?_, ?_⟩
    · rw [fn_Steps_amountUpTo_L2, if_neg c1, if_pos i6]
      by_cases c5 : lg_cmp (f k.toNatClampNeg).toInt64 x < 0
      · rw [if_pos c5, fn_Steps_amountUpTo_L2, if_pos c2, if_neg c3, ek, if_pos i6]
        rfl
      · rw [if_neg c5]
    · rw [fn_Model_due_L7, ek, if_pos (Int32.le_refl k), if_neg c4, if_pos i6]
      rfl
  | succ r ih =>
    intro p hp k hk0 hkr
    obtain ⟨p, rfl⟩ : ∃ p', p = p' + 1 := ⟨p - 1, by omega⟩
    have e1 : (n - 1).toInt = n.toInt - 1 := by
      rw [pu_sub (by omega) (by omega), z1]
    have k1 : (k + 1).toInt = k.toInt + 1 := by
      rw [pu_add (by omega) (by omega), z1]
    have c1 : ¬ n ≤ k := by
      rw [Int32.le_iff_toInt_le]
      omega
    have c2 : ¬ n - 1 ≤ k := by
      rw [Int32.le_iff_toInt_le]
      omega
    have c4 : ¬ n = 0 := by
      intro hh
      rw [hh] at hkr
      omega
    have i6 : gx_ix k 6 = true := pu_ix hk0 (by omega)
    rw [fn_Steps_amountUpTo_L2, fn_Model_due_L7, if_neg c1, if_neg c2, if_pos i6, if_pos i6]
    by_cases c5 : (f k.toNatClampNeg).toInt64 < x
    · have c6 : ¬ 0 ≤ lg_cmp (f k.toNatClampNeg).toInt64 x := by
        rw [lg_cmp_ge]
        exact Int64.not_le.2 c5
      rw [if_pos ((lg_cmp_lt _ _).2 c5), if_neg c6]
      exact ih p (by omega) (k + 1) (by omega) (by omega)
    · have c6 : 0 ≤ lg_cmp (f k.toNatClampNeg).toInt64 x := by
        rw [lg_cmp_ge]
        exact Int64.not_lt.1 c5
      rw [if_neg (fun hh => c5 ((lg_cmp_lt _ _).1 hh)), if_pos c6, if_neg c4]
      exact ⟨_, rfl, rfl⟩
