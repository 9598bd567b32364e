theorem pu_rbk {v : Int32} (hv : 0 < v.toInt) {h w : Int64} {now : Nat → Int64} (q0 : now 0 = h) (q1 : now 1 = w) (k lv : Int32) (hk : 0 ≤ k.toInt ∧ k.toInt ≤ 3) : ∃ b : Int32, (∀ (kinds levels : Nat → Int32) (x : Int32), gx_ix x 4 = true → kinds x.toNatClampNeg = k → levels x.toNatClampNeg = lv → fn_Rules_isBroken kinds v h w levels x = some b) ∧ ∀ {α : Type} (K : Int32 → Option α), gx_b1 (if (2 : Int32) ≤ k then (gx_b1 (fn_Model_dampNow v now) fun r5 => some r5) else (gx_b1 (fn_Model_degreesNow v now) fun r6 => some r6)) (fun j4_0 => gx_b1 (if (k - k / (2 : Int32) * (2 : Int32)) = 0 then (gx_b1 (if lg_cmp j4_0 (lv.toInt64) ≤ 0 then some (0 : Int32) else some (1 : Int32)) fun j12_0 => some j12_0) else (gx_b1 (if 0 ≤ lg_cmp j4_0 (lv.toInt64) then some (0 : Int32) else some (1 : Int32)) fun j10_0 => some j10_0)) K) = K b := by
  have hc : k = 0 ∨ k = 1 ∨ k = 2 ∨ k = 3 := by
    have z0 : (0 : Int32).toInt = 0 := rfl
    have z1 : (1 : Int32).toInt = 1 := rfl
    have z2 : (2 : Int32).toInt = 2 := rfl
    have z3 : (3 : Int32).toInt = 3 := rfl
    by_cases c0 : k.toInt = 0
    · exact Or.inl (Int32.toInt_inj.1 (by omega))
    by_cases c1 : k.toInt = 1
    · exact Or.inr (Or.inl (Int32.toInt_inj.1 (by omega)))
    by_cases c2 : k.toInt = 2
    · exact Or.inr (Or.inr (Or.inl (Int32.toInt_inj.1 (by omega))))
    · exact Or.inr (Or.inr (Or.inr (Int32.toInt_inj.1 (by omega))))
  rcases hc with rfl | rfl | rfl | rfl
  · by_cases c : lg_cmp (pu_by h v.toInt64) (lv.toInt64) ≤ 0
    · refine ⟨0, ?_, ?_⟩
      · intro kinds levels x hx hk hl
        rw [fn_Rules_isBroken, if_pos hx, hk, if_pos rfl, pu_warm hv, pu_b1, hl, if_pos c]
        rfl
      · intro α K
        rw [if_neg (by decide : ¬ (2 : Int32) ≤ 0), pu_mdeg hv, q0, pu_b1, pu_b1, if_pos (by decide : (0 : Int32) - 0 / 2 * 2 = 0), if_pos c, pu_b1, pu_b1]
    · refine ⟨1, ?_, ?_⟩
      · intro kinds levels x hx hk hl
        rw [fn_Rules_isBroken, if_pos hx, hk, if_pos rfl, pu_warm hv, pu_b1, hl, if_neg c]
        rfl
      · intro α K
        rw [if_neg (by decide : ¬ (2 : Int32) ≤ 0), pu_mdeg hv, q0, pu_b1, pu_b1, if_pos (by decide : (0 : Int32) - 0 / 2 * 2 = 0), if_neg c, pu_b1, pu_b1]
  · by_cases c : 0 ≤ lg_cmp (pu_by h v.toInt64) (lv.toInt64)
    · refine ⟨0, ?_, ?_⟩
      · intro kinds levels x hx hk hl
        rw [fn_Rules_isBroken, if_pos hx, hk, if_neg (by decide : ¬ (1 : Int32) = 0), if_pos rfl, pu_warm hv, pu_b1, hl, if_pos c]
        rfl
      · intro α K
        rw [if_neg (by decide : ¬ (2 : Int32) ≤ 1), pu_mdeg hv, q0, pu_b1, pu_b1, if_neg (by decide : ¬ (1 : Int32) - 1 / 2 * 2 = 0), if_pos c, pu_b1, pu_b1]
    · refine ⟨1, ?_, ?_⟩
      · intro kinds levels x hx hk hl
        rw [fn_Rules_isBroken, if_pos hx, hk, if_neg (by decide : ¬ (1 : Int32) = 0), if_pos rfl, pu_warm hv, pu_b1, hl, if_neg c]
        rfl
      · intro α K
        rw [if_neg (by decide : ¬ (2 : Int32) ≤ 1), pu_mdeg hv, q0, pu_b1, pu_b1, if_neg (by decide : ¬ (1 : Int32) - 1 / 2 * 2 = 0), if_neg c, pu_b1, pu_b1]
  · by_cases c : lg_cmp (pu_by w v.toInt64) (lv.toInt64) ≤ 0
    · refine ⟨0, ?_, ?_⟩
      · intro kinds levels x hx hk hl
        rw [fn_Rules_isBroken, if_pos hx, hk, if_neg (by decide : ¬ (2 : Int32) = 0), if_neg (by decide : ¬ (2 : Int32) = 1), if_pos rfl, pu_mois hv, pu_b1, hl, if_pos c]
        rfl
      · intro α K
        rw [if_pos (by decide : (2 : Int32) ≤ 2), pu_mdam hv, q1, pu_b1, pu_b1, if_pos (by decide : (2 : Int32) - 2 / 2 * 2 = 0), if_pos c, pu_b1, pu_b1]
    · refine ⟨1, ?_, ?_⟩
      · intro kinds levels x hx hk hl
        rw [fn_Rules_isBroken, if_pos hx, hk, if_neg (by decide : ¬ (2 : Int32) = 0), if_neg (by decide : ¬ (2 : Int32) = 1), if_pos rfl, pu_mois hv, pu_b1, hl, if_neg c]
        rfl
      · intro α K
        rw [if_pos (by decide : (2 : Int32) ≤ 2), pu_mdam hv, q1, pu_b1, pu_b1, if_pos (by decide : (2 : Int32) - 2 / 2 * 2 = 0), if_neg c, pu_b1, pu_b1]
  · by_cases c : 0 ≤ lg_cmp (pu_by w v.toInt64) (lv.toInt64)
    · refine ⟨0, ?_, ?_⟩
      · intro kinds levels x hx hk hl
        rw [fn_Rules_isBroken, if_pos hx, hk, if_neg (by decide : ¬ (3 : Int32) = 0), if_neg (by decide : ¬ (3 : Int32) = 1), if_neg (by decide : ¬ (3 : Int32) = 2), if_pos rfl, pu_mois hv, pu_b1, hl, if_pos c]
        rfl
      · intro α K
        rw [if_pos (by decide : (2 : Int32) ≤ 3), pu_mdam hv, q1, pu_b1, pu_b1, if_neg (by decide : ¬ (3 : Int32) - 3 / 2 * 2 = 0), if_pos c, pu_b1, pu_b1]
    · refine ⟨1, ?_, ?_⟩
      · intro kinds levels x hx hk hl
        rw [fn_Rules_isBroken, if_pos hx, hk, if_neg (by decide : ¬ (3 : Int32) = 0), if_neg (by decide : ¬ (3 : Int32) = 1), if_neg (by decide : ¬ (3 : Int32) = 2), if_pos rfl, pu_mois hv, pu_b1, hl, if_neg c]
        rfl
      · intro α K
        rw [if_pos (by decide : (2 : Int32) ≤ 3), pu_mdam hv, q1, pu_b1, pu_b1, if_neg (by decide : ¬ (3 : Int32) - 3 / 2 * 2 = 0), if_neg c, pu_b1, pu_b1]
theorem pu_ahS {r : Nat} {f f' : Nat → Int32} (h : pu_Rah r f f') (c : Nat) (x : Int32) : pu_Rah r (upd f c x) (upd f' (300 * r + c) x) := by
  intro j hj
  show (if 300 * r + j = 300 * r + c then x else f' (300 * r + j)) = (if j = c then x else f j)
  by_cases e : j = c
  · rw [if_pos e, if_pos (by omega)]
  · rw [if_neg e, if_neg (by omega), h j hj]
theorem pu_ahO {q : Nat} {f f' : Nat → Int32} (h : pu_Rah q f f') (r c : Nat) (hc : c < 300) (hq : q ≠ r) (x : Int32) : pu_Rah q f (upd f' (300 * r + c) x) := by
  intro j hj
  show (if 300 * q + j = 300 * r + c then x else f' (300 * q + j)) = f j
  rw [if_neg (by omega), h j hj]
def pu_rgP (H n v : Int32) (k f d : Nat → Int32) (h w : Int64) (now : Nat → Int64) (i : Int32) (r : Nat) : Prop := ∀ p : Nat, 4 - r < p → ∀ (m f0 f1 f2 f3 f' : Nat → Int32), (∀ q : Nat, q < 4 → 0 ≤ (m q).toInt ∧ (m q).toInt ≤ H.toInt + 1) → (∀ q : Nat, r ≤ q → q < 4 → (m q).toInt ≤ H.toInt) → pu_Rah 0 f0 f' → pu_Rah 1 f1 f' → pu_Rah 2 f2 f' → pu_Rah 3 f3 f' → ∃ m9 g0 g1 g2 g3 g', fn_Rules_tell_L2 H n k v h w f d p i f0 m f1 f2 f3 = some (g0, m9, g1, g2, g3) ∧ fn_Model_ring_L2 n k v now f H d p i f' m = some (g', m9) ∧ (∀ q : Nat, q < 4 → 0 ≤ (m9 q).toInt ∧ (m9 q).toInt ≤ H.toInt + 1) ∧ pu_Rah 0 g0 g' ∧ pu_Rah 1 g1 g' ∧ pu_Rah 2 g2 g' ∧ pu_Rah 3 g3 g'
theorem pu_rge {H n v : Int32} {k f d : Nat → Int32} {h w : Int64} {now : Nat → Int64} {i : Int32} {r : Nat} (hi : n ≤ i) : pu_rgP H n v k f d h w now i r := by
  intro p hp m f0 f1 f2 f3 f' hm hm2 a0 a1 a2 a3
  obtain ⟨p, rfl⟩ : ∃ p', p = p' + 1 := ⟨p - 1, by omega⟩
  refine ⟨m, f0, f1, f2, f3, f', ?_, ?_, hm, a0, a1, a2, a3⟩
  · rw [fn_Rules_tell_L2, if_pos hi]
  · rw [fn_Model_ring_L2, if_pos hi]
set_option maxRecDepth 4000 in
theorem pu_rg0 {H n v : Int32} (hH0 : 0 ≤ H.toInt) (hH : H.toInt < 300) (hv : 0 < v.toInt) {k f d : Nat → Int32} (hn4 : n.toInt ≤ 4) (hk : ∀ q : Nat, (q : Int) < n.toInt → 0 ≤ (k q).toInt ∧ (k q).toInt ≤ 3 ∧ (d q).toInt ≤ 99) {h w : Int64} {now : Nat → Int64} (q0 : now 0 = h) (q1 : now 1 = w) (ih : pu_rgP H n v k f d h w now (0 + 1 : Int32) 1) : pu_rgP H n v k f d h w now (0 : Int32) 0 := by
  intro p hp m f0 f1 f2 f3 f' hm hm2 a0 a1 a2 a3
  obtain ⟨p, rfl⟩ : ∃ p', p = p' + 1 := ⟨p - 1, by omega⟩
  have z : (0 : Int32).toInt = 0 := rfl
  have z1 : (1 : Int32).toInt = 1 := rfl
  have zr : (0 : Int32).toInt = 0 := rfl
  have zn : (0 : Int32).toNatClampNeg = 0 := rfl
  have i4 : gx_ix (0 : Int32) 4 = true := by decide
  by_cases c0 : n ≤ (0 : Int32)
  · exact pu_rge c0 (p + 1) hp m f0 f1 f2 f3 f' hm hm2 a0 a1 a2 a3
  have c0' : (0 : Int) < n.toInt := by
    rw [Int32.le_iff_toInt_le] at c0
    omega
  obtain ⟨kb0, kb3, kd⟩ := hk 0 c0'
  have mr := hm 0 (by decide)
  have mr2 := hm2 0 (by decide) (by decide)
  obtain ⟨b, b1, b2⟩ := pu_rbk hv q0 q1 (k 0) (f 0) ⟨kb0, kb3⟩
  have B1 := b1 k f (0 : Int32) i4 rfl rfl
  have hnx := ih p (by omega)
  have hstay : ∃ m9 g0 g1 g2 g3 g', fn_Rules_tell_L2 H n k v h w f d p (0 + 1) f0 m f1 f2 f3 = some (g0, m9, g1, g2, g3) ∧ fn_Model_ring_L2 n k v now f H d p (0 + 1) f' m = some (g', m9) ∧ (∀ q : Nat, q < 4 → 0 ≤ (m9 q).toInt ∧ (m9 q).toInt ≤ H.toInt + 1) ∧ pu_Rah 0 g0 g' ∧ pu_Rah 1 g1 g' ∧ pu_Rah 2 g2 g' ∧ pu_Rah 3 g3 g' :=
    hnx m f0 f1 f2 f3 f' hm (fun q h1 h2 => hm2 q (by omega) h2) a0 a1 a2 a3
  -- the last hour of an alarm, on both sides
  have hlast : ∃ r4 j14 : Int32, fn_Rules_isHeld m f0 d f1 f2 f3 (0 : Int32) H = some r4 ∧ (if m 0 = 0 then some (-1000 : Int32) else (if gx_ix ((((300 : Int32) * (0 : Int32)) + m 0) - (1 : Int32)) 1200 then some (f' ((((300 : Int32) * (0 : Int32)) + m 0) - (1 : Int32)).toNatClampNeg) else none)) = some j14 ∧ (r4 = 0 ↔ ¬ (H - j14) < d 0) := by
    by_cases c1 : m 0 = 0
    · refine ⟨0, -1000, ?_, if_pos c1, ?_⟩
      · have c2 : m 0 ≤ 0 := by
          rw [c1]
          decide
        rw [fn_Rules_isHeld, if_pos i4, zn, if_pos c2]
      · refine ⟨fun _ => ?_, fun _ => rfl⟩
        have zm : (-1000 : Int32).toInt = -1000 := by decide
        rw [Int32.lt_iff_toInt_lt, pu_sub (by omega) (by omega)]
        omega
    · have m0 : (m 0).toInt ≠ 0 := fun hh => c1 (Int32.toInt_inj.1 hh)
      have c2 : ¬ m 0 ≤ 0 := by
        rw [Int32.le_iff_toInt_le]
        omega
      have e1 : (m 0 - 1).toInt = (m 0).toInt - 1 := by
        rw [pu_sub (by omega) (by omega), z1]
      have e1n : (m 0 - 1).toNatClampNeg = (m 0 - 1).toInt.toNat := rfl
      have x3 : gx_ix (m 0 - 1) 300 = true := pu_ix (by omega) (by omega)
      have zr3 : ((300 : Int32) * (0 : Int32)).toInt = 0 := rfl
      have e2 : (((300 : Int32) * (0 : Int32)) + m 0).toInt = 0 + (m 0).toInt := by
        rw [pu_add (by omega) (by omega), zr3]
      have e3 : ((((300 : Int32) * (0 : Int32)) + m 0) - (1 : Int32)).toInt = 0 + (m 0).toInt - 1 := by
        rw [pu_sub (by omega) (by omega), e2, z1]
      have e3n : ((((300 : Int32) * (0 : Int32)) + m 0) - (1 : Int32)).toNatClampNeg = ((((300 : Int32) * (0 : Int32)) + m 0) - (1 : Int32)).toInt.toNat := rfl
      have e4 : ((((300 : Int32) * (0 : Int32)) + m 0) - (1 : Int32)).toNatClampNeg = 300 * 0 + (m 0 - 1).toNatClampNeg := by omega
      have x12 : gx_ix ((((300 : Int32) * (0 : Int32)) + m 0) - (1 : Int32)) 1200 = true := pu_ix (by omega) (by omega)
      have eA := a0 (m 0 - 1).toNatClampNeg (by omega)
      by_cases c3 : d 0 ≤ H - f0 (m 0 - 1).toNatClampNeg
      · refine ⟨0, f0 (m 0 - 1).toNatClampNeg, ?_, ?_, ?_⟩
        · rw [fn_Rules_isHeld, if_pos i4, zn, if_neg c2, if_pos rfl, if_pos x3, if_pos c3]
          rfl
        · rw [if_neg c1, if_pos x12, e4, eA]
        · exact ⟨fun _ => Int32.not_lt.2 c3, fun _ => rfl⟩
      · refine ⟨1, f0 (m 0 - 1).toNatClampNeg, ?_, ?_, ?_⟩
        · rw [fn_Rules_isHeld, if_pos i4, zn, if_neg c2, if_pos rfl, if_pos x3, if_neg c3]
          rfl
        · rw [if_neg c1, if_pos x12, e4, eA]
        · exact ⟨fun hh => absurd hh (by decide), fun hh => absurd (Int32.not_lt.1 hh) c3⟩
  obtain ⟨r4, j14, l1, l2, l3⟩ := hlast
  have T : fn_Rules_tell_L2 H n k v h w f d (p + 1) (0 : Int32) f0 m f1 f2 f3 = fn_Rules_tell_L2 H n k v h w f d (p + 1) (0 : Int32) f0 m f1 f2 f3 := rfl
  conv at T => rhs; rw [fn_Rules_tell_L2, if_neg c0, B1, pu_b1]
  have M : fn_Model_ring_L2 n k v now f H d (p + 1) (0 : Int32) f' m = fn_Model_ring_L2 n k v now f H d (p + 1) (0 : Int32) f' m := rfl
  conv at M => rhs; rw [fn_Model_ring_L2, if_neg c0, if_pos i4, zn, b2, l2, pu_b1]
  rw [T, M]
  by_cases c5 : b = 0
  · rw [if_pos c5, if_pos c5, pu_b2]
    exact hstay
  · rw [if_neg c5, if_neg c5, l1, pu_b1]
    by_cases c6 : r4 = 0
    · rw [if_pos c6, if_neg (l3.1 c6)]
      have zr3 : ((300 : Int32) * (0 : Int32)).toInt = 0 := rfl
      have e2 : (((300 : Int32) * (0 : Int32)) + m 0).toInt = 0 + (m 0).toInt := by
        rw [pu_add (by omega) (by omega), zr3]
      have e2n : (((300 : Int32) * (0 : Int32)) + m 0).toNatClampNeg = (((300 : Int32) * (0 : Int32)) + m 0).toInt.toNat := rfl
      have mn : (m 0).toNatClampNeg = (m 0).toInt.toNat := rfl
      have e4 : (((300 : Int32) * (0 : Int32)) + m 0).toNatClampNeg = 300 * 0 + (m 0).toNatClampNeg := by omega
      have x12 : gx_ix (((300 : Int32) * (0 : Int32)) + m 0) 1200 = true := pu_ix (by omega) (by omega)
      have x3 : gx_ix (m 0) 300 = true := pu_ix (by omega) (by omega)
      have e5 : (m 0 + 1).toInt = (m 0).toInt + 1 := by
        rw [pu_add (by omega) (by omega), z1]
      rw [if_pos rfl, if_pos i4, zn, if_pos x3, if_pos x12, pu_b2, pu_b2, e4]
      refine hnx _ _ _ _ _ _ ?_ ?_ ?_ ?_ ?_ ?_
      · intro q hq
        show 0 ≤ (if q = 0 then m 0 + 1 else m q).toInt ∧ (if q = 0 then m 0 + 1 else m q).toInt ≤ H.toInt + 1
        by_cases e : q = 0
        · rw [if_pos e]
          omega
        · rw [if_neg e]
          exact hm q hq
      · intro q h1 h2
        show (if q = 0 then m 0 + 1 else m q).toInt ≤ H.toInt
        rw [if_neg (by omega)]
        exact hm2 q (by omega) h2
      · exact pu_ahS a0 _ _
      · exact pu_ahO a1 0 _ (by omega) (by decide) _
      · exact pu_ahO a2 0 _ (by omega) (by decide) _
      · exact pu_ahO a3 0 _ (by omega) (by decide) _
    · have c7 : (H - j14) < d 0 := Decidable.not_not.1 (fun hh => c6 (l3.2 hh))
      rw [if_neg c6, if_pos c7, pu_b2, pu_b2]
      exact hstay
set_option maxRecDepth 4000 in
theorem pu_rg1 {H n v : Int32} (hH0 : 0 ≤ H.toInt) (hH : H.toInt < 300) (hv : 0 < v.toInt) {k f d : Nat → Int32} (hn4 : n.toInt ≤ 4) (hk : ∀ q : Nat, (q : Int) < n.toInt → 0 ≤ (k q).toInt ∧ (k q).toInt ≤ 3 ∧ (d q).toInt ≤ 99) {h w : Int64} {now : Nat → Int64} (q0 : now 0 = h) (q1 : now 1 = w) (ih : pu_rgP H n v k f d h w now (1 + 1 : Int32) 2) : pu_rgP H n v k f d h w now (1 : Int32) 1 := by
  intro p hp m f0 f1 f2 f3 f' hm hm2 a0 a1 a2 a3
  obtain ⟨p, rfl⟩ : ∃ p', p = p' + 1 := ⟨p - 1, by omega⟩
  have z : (0 : Int32).toInt = 0 := rfl
  have z1 : (1 : Int32).toInt = 1 := rfl
  have zr : (1 : Int32).toInt = 1 := rfl
  have zn : (1 : Int32).toNatClampNeg = 1 := rfl
  have i4 : gx_ix (1 : Int32) 4 = true := by decide
  by_cases c0 : n ≤ (1 : Int32)
  · exact pu_rge c0 (p + 1) hp m f0 f1 f2 f3 f' hm hm2 a0 a1 a2 a3
  have c0' : (1 : Int) < n.toInt := by
    rw [Int32.le_iff_toInt_le] at c0
    omega
  obtain ⟨kb0, kb3, kd⟩ := hk 1 c0'
  have mr := hm 1 (by decide)
  have mr2 := hm2 1 (by decide) (by decide)
  obtain ⟨b, b1, b2⟩ := pu_rbk hv q0 q1 (k 1) (f 1) ⟨kb0, kb3⟩
  have B1 := b1 k f (1 : Int32) i4 rfl rfl
  have hnx := ih p (by omega)
  have hstay : ∃ m9 g0 g1 g2 g3 g', fn_Rules_tell_L2 H n k v h w f d p (1 + 1) f0 m f1 f2 f3 = some (g0, m9, g1, g2, g3) ∧ fn_Model_ring_L2 n k v now f H d p (1 + 1) f' m = some (g', m9) ∧ (∀ q : Nat, q < 4 → 0 ≤ (m9 q).toInt ∧ (m9 q).toInt ≤ H.toInt + 1) ∧ pu_Rah 0 g0 g' ∧ pu_Rah 1 g1 g' ∧ pu_Rah 2 g2 g' ∧ pu_Rah 3 g3 g' :=
    hnx m f0 f1 f2 f3 f' hm (fun q h1 h2 => hm2 q (by omega) h2) a0 a1 a2 a3
  -- the last hour of an alarm, on both sides
  have hlast : ∃ r4 j14 : Int32, fn_Rules_isHeld m f0 d f1 f2 f3 (1 : Int32) H = some r4 ∧ (if m 1 = 0 then some (-1000 : Int32) else (if gx_ix ((((300 : Int32) * (1 : Int32)) + m 1) - (1 : Int32)) 1200 then some (f' ((((300 : Int32) * (1 : Int32)) + m 1) - (1 : Int32)).toNatClampNeg) else none)) = some j14 ∧ (r4 = 0 ↔ ¬ (H - j14) < d 1) := by
    by_cases c1 : m 1 = 0
    · refine ⟨0, -1000, ?_, if_pos c1, ?_⟩
      · have c2 : m 1 ≤ 0 := by
          rw [c1]
          decide
        rw [fn_Rules_isHeld, if_pos i4, zn, if_pos c2]
      · refine ⟨fun _ => ?_, fun _ => rfl⟩
        have zm : (-1000 : Int32).toInt = -1000 := by decide
        rw [Int32.lt_iff_toInt_lt, pu_sub (by omega) (by omega)]
        omega
    · have m0 : (m 1).toInt ≠ 0 := fun hh => c1 (Int32.toInt_inj.1 hh)
      have c2 : ¬ m 1 ≤ 0 := by
        rw [Int32.le_iff_toInt_le]
        omega
      have e1 : (m 1 - 1).toInt = (m 1).toInt - 1 := by
        rw [pu_sub (by omega) (by omega), z1]
      have e1n : (m 1 - 1).toNatClampNeg = (m 1 - 1).toInt.toNat := rfl
      have x3 : gx_ix (m 1 - 1) 300 = true := pu_ix (by omega) (by omega)
      have zr3 : ((300 : Int32) * (1 : Int32)).toInt = 300 := rfl
      have e2 : (((300 : Int32) * (1 : Int32)) + m 1).toInt = 300 + (m 1).toInt := by
        rw [pu_add (by omega) (by omega), zr3]
      have e3 : ((((300 : Int32) * (1 : Int32)) + m 1) - (1 : Int32)).toInt = 300 + (m 1).toInt - 1 := by
        rw [pu_sub (by omega) (by omega), e2, z1]
      have e3n : ((((300 : Int32) * (1 : Int32)) + m 1) - (1 : Int32)).toNatClampNeg = ((((300 : Int32) * (1 : Int32)) + m 1) - (1 : Int32)).toInt.toNat := rfl
      have e4 : ((((300 : Int32) * (1 : Int32)) + m 1) - (1 : Int32)).toNatClampNeg = 300 * 1 + (m 1 - 1).toNatClampNeg := by omega
      have x12 : gx_ix ((((300 : Int32) * (1 : Int32)) + m 1) - (1 : Int32)) 1200 = true := pu_ix (by omega) (by omega)
      have eA := a1 (m 1 - 1).toNatClampNeg (by omega)
      by_cases c3 : d 1 ≤ H - f1 (m 1 - 1).toNatClampNeg
      · refine ⟨0, f1 (m 1 - 1).toNatClampNeg, ?_, ?_, ?_⟩
        · rw [fn_Rules_isHeld, if_pos i4, zn, if_neg c2, if_neg (by decide : ¬ (1 : Int32) = 0), if_pos rfl, if_pos x3, if_pos c3]
          rfl
        · rw [if_neg c1, if_pos x12, e4, eA]
        · exact ⟨fun _ => Int32.not_lt.2 c3, fun _ => rfl⟩
      · refine ⟨1, f1 (m 1 - 1).toNatClampNeg, ?_, ?_, ?_⟩
        · rw [fn_Rules_isHeld, if_pos i4, zn, if_neg c2, if_neg (by decide : ¬ (1 : Int32) = 0), if_pos rfl, if_pos x3, if_neg c3]
          rfl
        · rw [if_neg c1, if_pos x12, e4, eA]
        · exact ⟨fun hh => absurd hh (by decide), fun hh => absurd (Int32.not_lt.1 hh) c3⟩
  obtain ⟨r4, j14, l1, l2, l3⟩ := hlast
  have T : fn_Rules_tell_L2 H n k v h w f d (p + 1) (1 : Int32) f0 m f1 f2 f3 = fn_Rules_tell_L2 H n k v h w f d (p + 1) (1 : Int32) f0 m f1 f2 f3 := rfl
  conv at T => rhs; rw [fn_Rules_tell_L2, if_neg c0, B1, pu_b1]
  have M : fn_Model_ring_L2 n k v now f H d (p + 1) (1 : Int32) f' m = fn_Model_ring_L2 n k v now f H d (p + 1) (1 : Int32) f' m := rfl
  conv at M => rhs; rw [fn_Model_ring_L2, if_neg c0, if_pos i4, zn, b2, l2, pu_b1]
  rw [T, M]
  by_cases c5 : b = 0
  · rw [if_pos c5, if_pos c5, pu_b2]
    exact hstay
  · rw [if_neg c5, if_neg c5, l1, pu_b1]
    by_cases c6 : r4 = 0
    · rw [if_pos c6, if_neg (l3.1 c6)]
      have zr3 : ((300 : Int32) * (1 : Int32)).toInt = 300 := rfl
      have e2 : (((300 : Int32) * (1 : Int32)) + m 1).toInt = 300 + (m 1).toInt := by
        rw [pu_add (by omega) (by omega), zr3]
      have e2n : (((300 : Int32) * (1 : Int32)) + m 1).toNatClampNeg = (((300 : Int32) * (1 : Int32)) + m 1).toInt.toNat := rfl
      have mn : (m 1).toNatClampNeg = (m 1).toInt.toNat := rfl
      have e4 : (((300 : Int32) * (1 : Int32)) + m 1).toNatClampNeg = 300 * 1 + (m 1).toNatClampNeg := by omega
      have x12 : gx_ix (((300 : Int32) * (1 : Int32)) + m 1) 1200 = true := pu_ix (by omega) (by omega)
      have x3 : gx_ix (m 1) 300 = true := pu_ix (by omega) (by omega)
      have e5 : (m 1 + 1).toInt = (m 1).toInt + 1 := by
        rw [pu_add (by omega) (by omega), z1]
      rw [if_neg (by decide : ¬ (1 : Int32) = 0), if_pos rfl, if_pos i4, zn, if_pos x3, if_pos x12, pu_b2, pu_b2, e4]
      refine hnx _ _ _ _ _ _ ?_ ?_ ?_ ?_ ?_ ?_
      · intro q hq
        show 0 ≤ (if q = 1 then m 1 + 1 else m q).toInt ∧ (if q = 1 then m 1 + 1 else m q).toInt ≤ H.toInt + 1
        by_cases e : q = 1
        · rw [if_pos e]
          omega
        · rw [if_neg e]
          exact hm q hq
      · intro q h1 h2
        show (if q = 1 then m 1 + 1 else m q).toInt ≤ H.toInt
        rw [if_neg (by omega)]
        exact hm2 q (by omega) h2
      · exact pu_ahO a0 1 _ (by omega) (by decide) _
      · exact pu_ahS a1 _ _
      · exact pu_ahO a2 1 _ (by omega) (by decide) _
      · exact pu_ahO a3 1 _ (by omega) (by decide) _
    · have c7 : (H - j14) < d 1 := Decidable.not_not.1 (fun hh => c6 (l3.2 hh))
      rw [if_neg c6, if_pos c7, pu_b2, pu_b2]
      exact hstay
set_option maxRecDepth 4000 in
theorem pu_rg2 {H n v : Int32} (hH0 : 0 ≤ H.toInt) (hH : H.toInt < 300) (hv : 0 < v.toInt) {k f d : Nat → Int32} (hn4 : n.toInt ≤ 4) (hk : ∀ q : Nat, (q : Int) < n.toInt → 0 ≤ (k q).toInt ∧ (k q).toInt ≤ 3 ∧ (d q).toInt ≤ 99) {h w : Int64} {now : Nat → Int64} (q0 : now 0 = h) (q1 : now 1 = w) (ih : pu_rgP H n v k f d h w now (2 + 1 : Int32) 3) : pu_rgP H n v k f d h w now (2 : Int32) 2 := by
  intro p hp m f0 f1 f2 f3 f' hm hm2 a0 a1 a2 a3
  obtain ⟨p, rfl⟩ : ∃ p', p = p' + 1 := ⟨p - 1, by omega⟩
  have z : (0 : Int32).toInt = 0 := rfl
  have z1 : (1 : Int32).toInt = 1 := rfl
  have zr : (2 : Int32).toInt = 2 := rfl
  have zn : (2 : Int32).toNatClampNeg = 2 := rfl
  have i4 : gx_ix (2 : Int32) 4 = true := by decide
  by_cases c0 : n ≤ (2 : Int32)
  · exact pu_rge c0 (p + 1) hp m f0 f1 f2 f3 f' hm hm2 a0 a1 a2 a3
  have c0' : (2 : Int) < n.toInt := by
    rw [Int32.le_iff_toInt_le] at c0
    omega
  obtain ⟨kb0, kb3, kd⟩ := hk 2 c0'
  have mr := hm 2 (by decide)
  have mr2 := hm2 2 (by decide) (by decide)
  obtain ⟨b, b1, b2⟩ := pu_rbk hv q0 q1 (k 2) (f 2) ⟨kb0, kb3⟩
  have B1 := b1 k f (2 : Int32) i4 rfl rfl
  have hnx := ih p (by omega)
  have hstay : ∃ m9 g0 g1 g2 g3 g', fn_Rules_tell_L2 H n k v h w f d p (2 + 1) f0 m f1 f2 f3 = some (g0, m9, g1, g2, g3) ∧ fn_Model_ring_L2 n k v now f H d p (2 + 1) f' m = some (g', m9) ∧ (∀ q : Nat, q < 4 → 0 ≤ (m9 q).toInt ∧ (m9 q).toInt ≤ H.toInt + 1) ∧ pu_Rah 0 g0 g' ∧ pu_Rah 1 g1 g' ∧ pu_Rah 2 g2 g' ∧ pu_Rah 3 g3 g' :=
    hnx m f0 f1 f2 f3 f' hm (fun q h1 h2 => hm2 q (by omega) h2) a0 a1 a2 a3
  -- the last hour of an alarm, on both sides
  have hlast : ∃ r4 j14 : Int32, fn_Rules_isHeld m f0 d f1 f2 f3 (2 : Int32) H = some r4 ∧ (if m 2 = 0 then some (-1000 : Int32) else (if gx_ix ((((300 : Int32) * (2 : Int32)) + m 2) - (1 : Int32)) 1200 then some (f' ((((300 : Int32) * (2 : Int32)) + m 2) - (1 : Int32)).toNatClampNeg) else none)) = some j14 ∧ (r4 = 0 ↔ ¬ (H - j14) < d 2) := by
    by_cases c1 : m 2 = 0
    · refine ⟨0, -1000, ?_, if_pos c1, ?_⟩
      · have c2 : m 2 ≤ 0 := by
          rw [c1]
          decide
        rw [fn_Rules_isHeld, if_pos i4, zn, if_pos c2]
      · refine ⟨fun _ => ?_, fun _ => rfl⟩
        have zm : (-1000 : Int32).toInt = -1000 := by decide
        rw [Int32.lt_iff_toInt_lt, pu_sub (by omega) (by omega)]
        omega
    · have m0 : (m 2).toInt ≠ 0 := fun hh => c1 (Int32.toInt_inj.1 hh)
      have c2 : ¬ m 2 ≤ 0 := by
        rw [Int32.le_iff_toInt_le]
        omega
      have e1 : (m 2 - 1).toInt = (m 2).toInt - 1 := by
        rw [pu_sub (by omega) (by omega), z1]
      have e1n : (m 2 - 1).toNatClampNeg = (m 2 - 1).toInt.toNat := rfl
      have x3 : gx_ix (m 2 - 1) 300 = true := pu_ix (by omega) (by omega)
      have zr3 : ((300 : Int32) * (2 : Int32)).toInt = 600 := rfl
      have e2 : (((300 : Int32) * (2 : Int32)) + m 2).toInt = 600 + (m 2).toInt := by
        rw [pu_add (by omega) (by omega), zr3]
      have e3 : ((((300 : Int32) * (2 : Int32)) + m 2) - (1 : Int32)).toInt = 600 + (m 2).toInt - 1 := by
        rw [pu_sub (by omega) (by omega), e2, z1]
      have e3n : ((((300 : Int32) * (2 : Int32)) + m 2) - (1 : Int32)).toNatClampNeg = ((((300 : Int32) * (2 : Int32)) + m 2) - (1 : Int32)).toInt.toNat := rfl
      have e4 : ((((300 : Int32) * (2 : Int32)) + m 2) - (1 : Int32)).toNatClampNeg = 300 * 2 + (m 2 - 1).toNatClampNeg := by omega
      have x12 : gx_ix ((((300 : Int32) * (2 : Int32)) + m 2) - (1 : Int32)) 1200 = true := pu_ix (by omega) (by omega)
      have eA := a2 (m 2 - 1).toNatClampNeg (by omega)
      by_cases c3 : d 2 ≤ H - f2 (m 2 - 1).toNatClampNeg
      · refine ⟨0, f2 (m 2 - 1).toNatClampNeg, ?_, ?_, ?_⟩
        · rw [fn_Rules_isHeld, if_pos i4, zn, if_neg c2, if_neg (by decide : ¬ (2 : Int32) = 0), if_neg (by decide : ¬ (2 : Int32) = 1), if_pos rfl, if_pos x3, if_pos c3]
          rfl
        · rw [if_neg c1, if_pos x12, e4, eA]
        · exact ⟨fun _ => Int32.not_lt.2 c3, fun _ => rfl⟩
      · refine ⟨1, f2 (m 2 - 1).toNatClampNeg, ?_, ?_, ?_⟩
        · rw [fn_Rules_isHeld, if_pos i4, zn, if_neg c2, if_neg (by decide : ¬ (2 : Int32) = 0), if_neg (by decide : ¬ (2 : Int32) = 1), if_pos rfl, if_pos x3, if_neg c3]
          rfl
        · rw [if_neg c1, if_pos x12, e4, eA]
        · exact ⟨fun hh => absurd hh (by decide), fun hh => absurd (Int32.not_lt.1 hh) c3⟩
  obtain ⟨r4, j14, l1, l2, l3⟩ := hlast
  have T : fn_Rules_tell_L2 H n k v h w f d (p + 1) (2 : Int32) f0 m f1 f2 f3 = fn_Rules_tell_L2 H n k v h w f d (p + 1) (2 : Int32) f0 m f1 f2 f3 := rfl
  conv at T => rhs; rw [fn_Rules_tell_L2, if_neg c0, B1, pu_b1]
  have M : fn_Model_ring_L2 n k v now f H d (p + 1) (2 : Int32) f' m = fn_Model_ring_L2 n k v now f H d (p + 1) (2 : Int32) f' m := rfl
  conv at M => rhs; rw [fn_Model_ring_L2, if_neg c0, if_pos i4, zn, b2, l2, pu_b1]
  rw [T, M]
  by_cases c5 : b = 0
  · rw [if_pos c5, if_pos c5, pu_b2]
    exact hstay
  · rw [if_neg c5, if_neg c5, l1, pu_b1]
    by_cases c6 : r4 = 0
    · rw [if_pos c6, if_neg (l3.1 c6)]
      have zr3 : ((300 : Int32) * (2 : Int32)).toInt = 600 := rfl
      have e2 : (((300 : Int32) * (2 : Int32)) + m 2).toInt = 600 + (m 2).toInt := by
        rw [pu_add (by omega) (by omega), zr3]
      have e2n : (((300 : Int32) * (2 : Int32)) + m 2).toNatClampNeg = (((300 : Int32) * (2 : Int32)) + m 2).toInt.toNat := rfl
      have mn : (m 2).toNatClampNeg = (m 2).toInt.toNat := rfl
      have e4 : (((300 : Int32) * (2 : Int32)) + m 2).toNatClampNeg = 300 * 2 + (m 2).toNatClampNeg := by omega
      have x12 : gx_ix (((300 : Int32) * (2 : Int32)) + m 2) 1200 = true := pu_ix (by omega) (by omega)
      have x3 : gx_ix (m 2) 300 = true := pu_ix (by omega) (by omega)
      have e5 : (m 2 + 1).toInt = (m 2).toInt + 1 := by
        rw [pu_add (by omega) (by omega), z1]
      rw [if_neg (by decide : ¬ (2 : Int32) = 0), if_neg (by decide : ¬ (2 : Int32) = 1), if_pos rfl, if_pos i4, zn, if_pos x3, if_pos x12, pu_b2, pu_b2, e4]
      refine hnx _ _ _ _ _ _ ?_ ?_ ?_ ?_ ?_ ?_
      · intro q hq
        show 0 ≤ (if q = 2 then m 2 + 1 else m q).toInt ∧ (if q = 2 then m 2 + 1 else m q).toInt ≤ H.toInt + 1
        by_cases e : q = 2
        · rw [if_pos e]
          omega
        · rw [if_neg e]
          exact hm q hq
      · intro q h1 h2
        show (if q = 2 then m 2 + 1 else m q).toInt ≤ H.toInt
        rw [if_neg (by omega)]
        exact hm2 q (by omega) h2
      · exact pu_ahO a0 2 _ (by omega) (by decide) _
      · exact pu_ahO a1 2 _ (by omega) (by decide) _
      · exact pu_ahS a2 _ _
      · exact pu_ahO a3 2 _ (by omega) (by decide) _
    · have c7 : (H - j14) < d 2 := Decidable.not_not.1 (fun hh => c6 (l3.2 hh))
      rw [if_neg c6, if_pos c7, pu_b2, pu_b2]
      exact hstay
set_option maxRecDepth 4000 in
theorem pu_rg3 {H n v : Int32} (hH0 : 0 ≤ H.toInt) (hH : H.toInt < 300) (hv : 0 < v.toInt) {k f d : Nat → Int32} (hn4 : n.toInt ≤ 4) (hk : ∀ q : Nat, (q : Int) < n.toInt → 0 ≤ (k q).toInt ∧ (k q).toInt ≤ 3 ∧ (d q).toInt ≤ 99) {h w : Int64} {now : Nat → Int64} (q0 : now 0 = h) (q1 : now 1 = w) (ih : pu_rgP H n v k f d h w now (3 + 1 : Int32) 4) : pu_rgP H n v k f d h w now (3 : Int32) 3 := by
  intro p hp m f0 f1 f2 f3 f' hm hm2 a0 a1 a2 a3
  obtain ⟨p, rfl⟩ : ∃ p', p = p' + 1 := ⟨p - 1, by omega⟩
  have z : (0 : Int32).toInt = 0 := rfl
  have z1 : (1 : Int32).toInt = 1 := rfl
  have zr : (3 : Int32).toInt = 3 := rfl
  have zn : (3 : Int32).toNatClampNeg = 3 := rfl
  have i4 : gx_ix (3 : Int32) 4 = true := by decide
  by_cases c0 : n ≤ (3 : Int32)
  · exact pu_rge c0 (p + 1) hp m f0 f1 f2 f3 f' hm hm2 a0 a1 a2 a3
  have c0' : (3 : Int) < n.toInt := by
    rw [Int32.le_iff_toInt_le] at c0
    omega
  obtain ⟨kb0, kb3, kd⟩ := hk 3 c0'
  have mr := hm 3 (by decide)
  have mr2 := hm2 3 (by decide) (by decide)
  obtain ⟨b, b1, b2⟩ := pu_rbk hv q0 q1 (k 3) (f 3) ⟨kb0, kb3⟩
  have B1 := b1 k f (3 : Int32) i4 rfl rfl
  have hnx := ih p (by omega)
  have hstay : ∃ m9 g0 g1 g2 g3 g', fn_Rules_tell_L2 H n k v h w f d p (3 + 1) f0 m f1 f2 f3 = some (g0, m9, g1, g2, g3) ∧ fn_Model_ring_L2 n k v now f H d p (3 + 1) f' m = some (g', m9) ∧ (∀ q : Nat, q < 4 → 0 ≤ (m9 q).toInt ∧ (m9 q).toInt ≤ H.toInt + 1) ∧ pu_Rah 0 g0 g' ∧ pu_Rah 1 g1 g' ∧ pu_Rah 2 g2 g' ∧ pu_Rah 3 g3 g' :=
    hnx m f0 f1 f2 f3 f' hm (fun q h1 h2 => hm2 q (by omega) h2) a0 a1 a2 a3
  -- the last hour of an alarm, on both sides
  have hlast : ∃ r4 j14 : Int32, fn_Rules_isHeld m f0 d f1 f2 f3 (3 : Int32) H = some r4 ∧ (if m 3 = 0 then some (-1000 : Int32) else (if gx_ix ((((300 : Int32) * (3 : Int32)) + m 3) - (1 : Int32)) 1200 then some (f' ((((300 : Int32) * (3 : Int32)) + m 3) - (1 : Int32)).toNatClampNeg) else none)) = some j14 ∧ (r4 = 0 ↔ ¬ (H - j14) < d 3) := by
    by_cases c1 : m 3 = 0
    · refine ⟨0, -1000, ?_, if_pos c1, ?_⟩
      · have c2 : m 3 ≤ 0 := by
          rw [c1]
          decide
        rw [fn_Rules_isHeld, if_pos i4, zn, if_pos c2]
      · refine ⟨fun _ => ?_, fun _ => rfl⟩
        have zm : (-1000 : Int32).toInt = -1000 := by decide
        rw [Int32.lt_iff_toInt_lt, pu_sub (by omega) (by omega)]
        omega
    · have m0 : (m 3).toInt ≠ 0 := fun hh => c1 (Int32.toInt_inj.1 hh)
      have c2 : ¬ m 3 ≤ 0 := by
        rw [Int32.le_iff_toInt_le]
        omega
      have e1 : (m 3 - 1).toInt = (m 3).toInt - 1 := by
        rw [pu_sub (by omega) (by omega), z1]
      have e1n : (m 3 - 1).toNatClampNeg = (m 3 - 1).toInt.toNat := rfl
      have x3 : gx_ix (m 3 - 1) 300 = true := pu_ix (by omega) (by omega)
      have zr3 : ((300 : Int32) * (3 : Int32)).toInt = 900 := rfl
      have e2 : (((300 : Int32) * (3 : Int32)) + m 3).toInt = 900 + (m 3).toInt := by
        rw [pu_add (by omega) (by omega), zr3]
      have e3 : ((((300 : Int32) * (3 : Int32)) + m 3) - (1 : Int32)).toInt = 900 + (m 3).toInt - 1 := by
        rw [pu_sub (by omega) (by omega), e2, z1]
      have e3n : ((((300 : Int32) * (3 : Int32)) + m 3) - (1 : Int32)).toNatClampNeg = ((((300 : Int32) * (3 : Int32)) + m 3) - (1 : Int32)).toInt.toNat := rfl
      have e4 : ((((300 : Int32) * (3 : Int32)) + m 3) - (1 : Int32)).toNatClampNeg = 300 * 3 + (m 3 - 1).toNatClampNeg := by omega
      have x12 : gx_ix ((((300 : Int32) * (3 : Int32)) + m 3) - (1 : Int32)) 1200 = true := pu_ix (by omega) (by omega)
      have eA := a3 (m 3 - 1).toNatClampNeg (by omega)
      by_cases c3 : d 3 ≤ H - f3 (m 3 - 1).toNatClampNeg
      · refine ⟨0, f3 (m 3 - 1).toNatClampNeg, ?_, ?_, ?_⟩
        · rw [fn_Rules_isHeld, if_pos i4, zn, if_neg c2, if_neg (by decide : ¬ (3 : Int32) = 0), if_neg (by decide : ¬ (3 : Int32) = 1), if_neg (by decide : ¬ (3 : Int32) = 2), if_pos rfl, if_pos x3, if_pos c3]
          rfl
        · rw [if_neg c1, if_pos x12, e4, eA]
        · exact ⟨fun _ => Int32.not_lt.2 c3, fun _ => rfl⟩
      · refine ⟨1, f3 (m 3 - 1).toNatClampNeg, ?_, ?_, ?_⟩
        · rw [fn_Rules_isHeld, if_pos i4, zn, if_neg c2, if_neg (by decide : ¬ (3 : Int32) = 0), if_neg (by decide : ¬ (3 : Int32) = 1), if_neg (by decide : ¬ (3 : Int32) = 2), if_pos rfl, if_pos x3, if_neg c3]
          rfl
        · rw [if_neg c1, if_pos x12, e4, eA]
        · exact ⟨fun hh => absurd hh (by decide), fun hh => absurd (Int32.not_lt.1 hh) c3⟩
  obtain ⟨r4, j14, l1, l2, l3⟩ := hlast
  have T : fn_Rules_tell_L2 H n k v h w f d (p + 1) (3 : Int32) f0 m f1 f2 f3 = fn_Rules_tell_L2 H n k v h w f d (p + 1) (3 : Int32) f0 m f1 f2 f3 := rfl
  conv at T => rhs; rw [fn_Rules_tell_L2, if_neg c0, B1, pu_b1]
  have M : fn_Model_ring_L2 n k v now f H d (p + 1) (3 : Int32) f' m = fn_Model_ring_L2 n k v now f H d (p + 1) (3 : Int32) f' m := rfl
  conv at M => rhs; rw [fn_Model_ring_L2, if_neg c0, if_pos i4, zn, b2, l2, pu_b1]
  rw [T, M]
  by_cases c5 : b = 0
  · rw [if_pos c5, if_pos c5, pu_b2]
    exact hstay
  · rw [if_neg c5, if_neg c5, l1, pu_b1]
    by_cases c6 : r4 = 0
    · rw [if_pos c6, if_neg (l3.1 c6)]
      have zr3 : ((300 : Int32) * (3 : Int32)).toInt = 900 := rfl
      have e2 : (((300 : Int32) * (3 : Int32)) + m 3).toInt = 900 + (m 3).toInt := by
        rw [pu_add (by omega) (by omega), zr3]
      have e2n : (((300 : Int32) * (3 : Int32)) + m 3).toNatClampNeg = (((300 : Int32) * (3 : Int32)) + m 3).toInt.toNat := rfl
      have mn : (m 3).toNatClampNeg = (m 3).toInt.toNat := rfl
      have e4 : (((300 : Int32) * (3 : Int32)) + m 3).toNatClampNeg = 300 * 3 + (m 3).toNatClampNeg := by omega
      have x12 : gx_ix (((300 : Int32) * (3 : Int32)) + m 3) 1200 = true := pu_ix (by omega) (by omega)
      have x3 : gx_ix (m 3) 300 = true := pu_ix (by omega) (by omega)
      have e5 : (m 3 + 1).toInt = (m 3).toInt + 1 := by
        rw [pu_add (by omega) (by omega), z1]
      rw [if_neg (by decide : ¬ (3 : Int32) = 0), if_neg (by decide : ¬ (3 : Int32) = 1), if_neg (by decide : ¬ (3 : Int32) = 2), if_pos rfl, if_pos i4, zn, if_pos x3, if_pos x12, pu_b2, pu_b2, e4]
      refine hnx _ _ _ _ _ _ ?_ ?_ ?_ ?_ ?_ ?_
      · intro q hq
        show 0 ≤ (if q = 3 then m 3 + 1 else m q).toInt ∧ (if q = 3 then m 3 + 1 else m q).toInt ≤ H.toInt + 1
        by_cases e : q = 3
        · rw [if_pos e]
          omega
        · rw [if_neg e]
          exact hm q hq
      · intro q h1 h2
        show (if q = 3 then m 3 + 1 else m q).toInt ≤ H.toInt
        rw [if_neg (by omega)]
        exact hm2 q (by omega) h2
      · exact pu_ahO a0 3 _ (by omega) (by decide) _
      · exact pu_ahO a1 3 _ (by omega) (by decide) _
      · exact pu_ahO a2 3 _ (by omega) (by decide) _
      · exact pu_ahS a3 _ _
    · have c7 : (H - j14) < d 3 := Decidable.not_not.1 (fun hh => c6 (l3.2 hh))
      rw [if_neg c6, if_pos c7, pu_b2, pu_b2]
      exact hstay
theorem pu_ring {H n v : Int32} (hH0 : 0 ≤ H.toInt) (hH : H.toInt < 300) (hv : 0 < v.toInt) {k f d m f0 f1 f2 f3 f' : Nat → Int32} (hn4 : n.toInt ≤ 4) (hk : ∀ q : Nat, (q : Int) < n.toInt → 0 ≤ (k q).toInt ∧ (k q).toInt ≤ 3 ∧ (d q).toInt ≤ 99) (hm : ∀ q : Nat, q < 4 → 0 ≤ (m q).toInt ∧ (m q).toInt ≤ H.toInt) {h w : Int64} {now : Nat → Int64} (q0 : now 0 = h) (q1 : now 1 = w) (a0 : pu_Rah 0 f0 f') (a1 : pu_Rah 1 f1 f') (a2 : pu_Rah 2 f2 f') (a3 : pu_Rah 3 f3 f') : ∃ m9 g0 g1 g2 g3 g', fn_Rules_tell n k v h w f m f0 d f1 f2 f3 H = some (g0, m9, g1, g2, g3) ∧ fn_Model_ring v H n k now f m f' d = some (g', m9) ∧ (∀ q : Nat, q < 4 → 0 ≤ (m9 q).toInt ∧ (m9 q).toInt ≤ H.toInt + 1) ∧ pu_Rah 0 g0 g' ∧ pu_Rah 1 g1 g' ∧ pu_Rah 2 g2 g' ∧ pu_Rah 3 g3 g' := by
  have r4 : pu_rgP H n v k f d h w now (3 + 1 : Int32) 4 := pu_rge (by
    have z : (3 + 1 : Int32).toInt = 4 := by decide
    rw [Int32.le_iff_toInt_le]
    omega)
  have r3 := pu_rg3 hH0 hH hv hn4 hk q0 q1 r4
  have r2 := pu_rg2 hH0 hH hv hn4 hk q0 q1 r3
  have r1 := pu_rg1 hH0 hH hv hn4 hk q0 q1 r2
  have r0 := pu_rg0 hH0 hH hv hn4 hk q0 q1 r1
  exact r0 400 (by decide) m f0 f1 f2 f3 f' (fun q hq => ⟨(hm q hq).1, by have := (hm q hq).2; omega⟩) (fun q _ hq => (hm q hq).2) a0 a1 a2 a3
theorem pu_outs (x1 x2 : Int32) : fn_Model_isOutside x1 x2 = some (if (-60000 ≤ x1 ∧ x1 ≤ 60000) ∧ (0 ≤ x2 ∧ x2 ≤ 60000) then 1 else 0) := by
  unfold fn_Model_isOutside
  rw [pu_ml, pu_b1]
  by_cases c1 : -60000 ≤ x1 ∧ x1 ≤ 60000
  · rw [if_pos c1, if_neg pu_n0, pu_mw, pu_b1]
    by_cases c2 : 0 ≤ x2 ∧ x2 ≤ 60000
    · rw [if_pos c2, if_pos (show (-60000 ≤ x1 ∧ x1 ≤ 60000) ∧ (0 ≤ x2 ∧ x2 ≤ 60000) from ⟨c1, c2⟩)]
      rfl
    · rw [if_neg c2, if_neg (show ¬ ((-60000 ≤ x1 ∧ x1 ≤ 60000) ∧ (0 ≤ x2 ∧ x2 ≤ 60000)) from fun hh => c2 hh.2)]
      rfl
  · rw [if_neg c1, if_neg (show ¬ ((-60000 ≤ x1 ∧ x1 ≤ 60000) ∧ (0 ≤ x2 ∧ x2 ≤ 60000)) from fun hh => c1 hh.1)]
    rfl
theorem pu_b7 {α b1 b2 b3 b4 b5 b6 b7 : Type} (x1 : b1) (x2 : b2) (x3 : b3) (x4 : b4) (x5 : b5) (x6 : b6) (x7 : b7) (k : b1 → b2 → b3 → b4 → b5 → b6 → b7 → Option α) : gx_b7 (some (x1, x2, x3, x4, x5, x6, x7)) k = k x1 x2 x3 x4 x5 x6 x7 := rfl
theorem pu_gau1 {h n : Int32} {v s r k : Nat → Int32} {h' : Int32} {v' k' r' : Nat → Int32} (g : pu_Rgau h n v s r k h' v' k' r') (hh : h.toInt < 300) : pu_Rgau (h + 1) n v s r k (h' + 1) v' k' r' := by
  obtain ⟨e1, e2, e3, b0, b3, b4, b5, b6, b7⟩ := g
  have z1 : (1 : Int32).toInt = 1 := rfl
  have ha : (h + 1).toInt = h.toInt + 1 := by
    rw [pu_add (by omega) (by omega), z1]
  refine ⟨by rw [e1], e2, e3, by omega, by omega, b4, b5, fun j hj hk => ?_, ?_⟩
  · have q := b6 j hj hk
    exact ⟨q.1, by omega, q.2.2⟩
  · have t1 : (h + 1).toNatClampNeg = (h + 1).toInt.toNat := rfl
    have t2 : h.toNatClampNeg = h.toInt.toNat := rfl
    have t3 : (h + 1).toNatClampNeg = h.toNatClampNeg + 1 := by omega
    rw [t3, pu_cnt]
    by_cases c : k h.toNatClampNeg = 0
    · rw [if_pos c]
      exact b7
    · have q := b6 h.toNatClampNeg (by omega) c
      omega
theorem ps_hour {I : Nat → Int32} {J : Nat → Int64} {A : Nat → Nat → Int32} {L : Nat → Nat → Int64} {i : Nat → Int32} {a : Nat → Nat → Int32} {l9 : Nat → Nat → Int64} (h : pu_Rel I J A L i a l9) (o : Nat → Int64) (x1 x2 x3 : Int32) : st_hour pu_Rel I J A L i a l9 o x1 x2 x3 := by
  obtain ⟨h1, h2, h3, h4, h5, h6, h7, h8, h9, h10, h11, h12, h13, h14, h15, h16, h17⟩ := h
  unfold st_hour
  obtain ⟨g1, g2, g3, g4⟩ := h1
  obtain ⟨w1, w2, w3, w4, w5, w6⟩ := h2
  obtain ⟨d1, d2, d3, d4, d5, d6⟩ := h3
  obtain ⟨m1, m2, m3, m4, m5⟩ := h4
  obtain ⟨r1, r2, r3, r4, r5, r6, r7, r8, r9⟩ := h12
  have u0 := h17.1
  have u1 := h17.2.2.2.1
  have z300 : (300 : Int32).toInt = 300 := rfl
  have z1 : (1 : Int32).toInt = 1 := rfl
  have hnz : (300 : Int32) ≤ I 0 ↔ ¬ I 0 < 300 := by
    rw [Int32.le_iff_toInt_le, Int32.lt_iff_toInt_lt]
    omega
  by_cases c1 : I 0 < 300
  · have c1n : ¬ (300 : Int32) ≤ I 0 := fun hh => hnz.1 hh c1
    have hH := Int32.lt_iff_toInt_lt.1 c1
    rw [z300] at hH
    have ha : (I 0 + 1).toInt = (I 0).toInt + 1 := by
      rw [pu_add (by omega) (by omega), z1]
    by_cases c2 : (-60000 ≤ x1 ∧ x1 ≤ 60000) ∧ (0 ≤ x2 ∧ x2 ≤ 60000)
    · by_cases c3 : 0 ≤ x3 ∧ x3 ≤ 99
      · have hv : 0 < (I 1).toInt := by omega
        obtain ⟨h', hb', w', wb', F', q', ru', now', bk', p1, p2, p3, p4, p5⟩ := pu_pass (s := I 2) (g := I 4) (c := A 0) (lev := A 2) (am := A 3) hv w4 w5 w6 d5 d6 x1 x2 x3 h5 m5 (L 0) (L 1) (l9 2)
        obtain ⟨s', s1, s2⟩ := pu_pts hv p3.1 p3.2.1 h7 h8 h9 h10 (A 24)
        obtain ⟨m9, k0, k1, k2, k3, k', t1, t2, t3, t4, t5, t6, t7⟩ := pu_ring (f := A 26) u1 hH hv r7 r9 r8 p3.1 p3.2.1 h13 h14 h15 h16
        refine Or.inl ⟨h', hb', w', wb', F', q', ru', s', k0, m9, k1, k2, k3, I 0 + 1, vp_updL o (0 : Int32).toNatClampNeg ((I 0 + 1) - 1).toInt64, (I 0 + 1) - 1, 0, now', bk', s', k', m9, I 0 + 1, ?_, ?_, rfl, (lg_cmp_eq _ _).2 pk_uLs, ⟨⟨g1, g2, g3, g4⟩, ⟨w1, w2, w3, w4, w5, w6⟩, ⟨d1, d2, d3, d4, d5, d6⟩, ⟨m1, m2, m3, m4, p4⟩, p3, p5 h6, h7, h8, h9, h10, rfl, ⟨r1, r2, r3, r4, rfl, r6, r7, fun q hq => ⟨(t3 q hq).1, ?_⟩, r9⟩, t4, t5, t6, t7, ?_⟩⟩
        · simp only [fn_Law_hour, fn_Room_hour, pu_rsp, if_pos c1, pu_rin, if_pos c2.1, if_pos c2.2, if_pos c3, p1, pu_b7, s1, pu_b1, t1, pu_b5] <;> rfl
        · simp only [fn_Model_hour, u0, if_neg c1n, pu_b1, pu_outs, if_pos c2, if_neg pu_n0, pu_mw, if_pos c3, pu_goes, pu_b2, g1, g2, w1, w2, w3, d1, d2, d3, d4, m1, m2, m3, m4, h11, r1, r2, r3, r4, r5, p2, pu_b3, s2, t2] <;> rfl
        · show (m9 q).toInt ≤ (I 0 + 1).toInt
          rw [ha]
          exact (t3 q hq).2
        · have e9 := pu_gau1 h17 hH
          rw [u0] at e9
          exact e9
      · refine Or.inr (Or.inr ⟨0, 2, l9 0, l9 2, a 11, a 16, a 15, i 6, ?_, ?_, rfl, ⟨⟨g1, g2, g3, g4⟩, ⟨w1, w2, w3, w4, w5, w6⟩, ⟨d1, d2, d3, d4, d5, d6⟩, ⟨m1, m2, m3, m4, m5⟩, h5, h6, h7, h8, h9, h10, h11, ⟨r1, r2, r3, r4, r5, r6, r7, r8, r9⟩, h13, h14, h15, h16, h17⟩⟩)
        · simp only [fn_Room_hour, pu_rsp, if_pos c1, pu_rin, if_pos c2.1, if_pos c2.2, if_neg c3] <;> rfl
        · simp only [fn_Model_hour, u0, if_neg c1n, pu_b1, pu_outs, if_pos c2, if_neg pu_n0, pu_mw, if_neg c3, pu_goes, pu_b2, ↓reduceIte] <;> rfl
    · have n2 : fn_Room_hour (I 0) (I 1) (I 2) (J 0) (J 1) (L 0) (L 1) (I 3) (L 2) (A 0) (A 1) (I 4) (J 2) (I 5) (A 3) (A 2) (A 7) (A 4) (A 5) (A 8) (A 6) (A 24) (I 10) (A 16) (A 17) (I 11) (A 18) (A 19) (I 12) (A 20) (A 21) (I 13) (A 22) (A 23) (I 14) (A 25) (A 26) (A 28) (A 29) (A 27) (A 30) (A 31) (A 32) x1 x2 x3 = some (.inl 3) := by
        by_cases c4 : -60000 ≤ x1 ∧ x1 ≤ 60000
        · have c5 : ¬ (0 ≤ x2 ∧ x2 ≤ 60000) := fun hh => c2 ⟨c4, hh⟩
          simp only [fn_Room_hour, pu_rsp, if_pos c1, pu_rin, if_pos c4, if_neg c5] <;> rfl
        · simp only [fn_Room_hour, pu_rsp, if_pos c1, pu_rin, if_neg c4] <;> rfl
      refine Or.inr (Or.inr ⟨0, 2, l9 0, l9 2, a 11, a 16, a 15, i 6, n2, ?_, rfl, ⟨⟨g1, g2, g3, g4⟩, ⟨w1, w2, w3, w4, w5, w6⟩, ⟨d1, d2, d3, d4, d5, d6⟩, ⟨m1, m2, m3, m4, m5⟩, h5, h6, h7, h8, h9, h10, h11, ⟨r1, r2, r3, r4, r5, r6, r7, r8, r9⟩, h13, h14, h15, h16, h17⟩⟩)
      simp only [fn_Model_hour, u0, if_neg c1n, pu_b1, pu_outs, if_neg c2, if_neg pu_n0, pu_goes, pu_b2, ↓reduceIte] <;> rfl
  · have c1n : (300 : Int32) ≤ I 0 := hnz.2 c1
    obtain ⟨j5, hj⟩ : ∃ j5, (if (if (-60000 ≤ x1 ∧ x1 ≤ 60000) ∧ (0 ≤ x2 ∧ x2 ≤ 60000) then (1 : Int32) else 0) = 0 then some (0 : Int32) else (gx_b1 (fn_Model_within x3 (0 : Int32) (99 : Int32)) fun r6 => (gx_b1 (if r6 = 0 then some (0 : Int32) else some (1 : Int32)) fun j8_0 => some j8_0))) = some j5 := by
      rw [pu_mw, pu_b1]
      by_cases c2 : (-60000 ≤ x1 ∧ x1 ≤ 60000) ∧ (0 ≤ x2 ∧ x2 ≤ 60000)
      · rw [if_pos c2, if_neg pu_n0]
        by_cases c3 : 0 ≤ x3 ∧ x3 ≤ 99
        · rw [if_pos c3]
          exact ⟨1, rfl⟩
        · rw [if_neg c3]
          exact ⟨0, rfl⟩
      · rw [if_neg c2]
        exact ⟨0, rfl⟩
    refine Or.inr (Or.inl ⟨0, 1, l9 0, l9 2, a 11, a 16, a 15, i 6, ?_, ?_, rfl, ⟨⟨g1, g2, g3, g4⟩, ⟨w1, w2, w3, w4, w5, w6⟩, ⟨d1, d2, d3, d4, d5, d6⟩, ⟨m1, m2, m3, m4, m5⟩, h5, h6, h7, h8, h9, h10, h11, ⟨r1, r2, r3, r4, r5, r6, r7, r8, r9⟩, h13, h14, h15, h16, h17⟩⟩)
    · simp only [fn_Room_hour, pu_rsp, if_neg c1] <;> rfl
    · unfold fn_Model_hour
      rw [u0, if_pos c1n, pu_b1, pu_outs, pu_b1, hj, pu_b1, pu_goes, if_pos rfl, pu_b2, if_pos rfl]
