def pu_Rroom (v s v' s' : Int32) : Prop := v' = v ∧ s' = s ∧ 1 ≤ v.toInt ∧ v.toInt ≤ 1000
def pu_Rwall (n : Int32) (c d : Nat → Int32) (n' : Int32) (c' d' : Nat → Int32) : Prop := n' = n ∧ c' = c ∧ d' = d ∧ 0 ≤ n.toInt ∧ n.toInt ≤ 5 ∧ ∀ k : Nat, (k : Int) < n.toInt → 0 < (d k).toInt
def pu_Rgood (g n : Int32) (f m : Nat → Int32) (g' n' : Int32) (f' m' : Nat → Int32) : Prop := g' = g ∧ n' = n ∧ f' = f ∧ m' = m ∧ 0 ≤ n.toInt ∧ n.toInt ≤ 6
def pu_Mok (lo hi ra to ru : Nat → Int32) : Prop := ∀ k : Nat, k < 4 → (ru k = 0 ∨ ru k = 1) ∧ (to k = 0 → ru k = 0) ∧ (to k ≠ 0 → lo k ≤ hi k) ∧ 0 ≤ (ra k).toInt ∧ (ra k).toInt ≤ 100000
def pu_Rmach (lo hi ra to ru to' lo' hi' ra' : Nat → Int32) : Prop := to' = to ∧ lo' = lo ∧ hi' = hi ∧ ra' = ra ∧ pu_Mok lo hi ra to ru
def pu_Rnow (h w g : Int64) (f : Nat → Int64) (ru : Nat → Int32) (now : Nat → Int64) : Prop := now 0 = h ∧ now 1 = w ∧ now 2 = g ∧ (∀ k : Nat, k < 5 → now (3 + k) = f k) ∧ ∀ k : Nat, k < 4 → now (8 + k) = (ru k).toInt64
def pu_Rbook (f g b : Nat → Int64) : Prop := ∀ k : Nat, k < 5 → b k = f k ∧ b (5 + k) = g k
def pu_Rrk (r : Nat) (n : Int32) (f g n' f' g' : Nat → Int32) : Prop := n' r = n ∧ 0 ≤ n.toInt ∧ n.toInt ≤ 5 ∧ (∀ j : Nat, j < 5 → f' (5 * r + j) = f j ∧ g' (5 * r + j) = g j) ∧ ∀ j : Nat, (j : Int) + 1 < n.toInt → (f j).toInt < (f (j + 1)).toInt
def pu_Rrule (h n : Int32) (k f d m : Nat → Int32) (n' : Int32) (k' f' d' m' : Nat → Int32) : Prop := n' = n ∧ k' = k ∧ f' = f ∧ d' = d ∧ m' = m ∧ 0 ≤ n.toInt ∧ n.toInt ≤ 4 ∧ (∀ r : Nat, r < 4 → 0 ≤ (m r).toInt ∧ (m r).toInt ≤ h.toInt) ∧ ∀ r : Nat, (r : Int) < n.toInt → 0 ≤ (k r).toInt ∧ (k r).toInt ≤ 3 ∧ (d r).toInt ≤ 99
def pu_Rah (r : Nat) (f f' : Nat → Int32) : Prop := ∀ j : Nat, j < 300 → f' (300 * r + j) = f j
def pu_cnt (f : Nat → Int32) : Nat → Int32
  | 0 => 0
  | n + 1 => if f n = 0 then pu_cnt f n else pu_cnt f n + 1
def pu_Rgau (h n : Int32) (v s r k : Nat → Int32) (h' : Int32) (v' k' r' : Nat → Int32) : Prop := h' = h ∧ k' = k ∧ r' = r ∧ 0 ≤ h.toInt ∧ h.toInt ≤ 300 ∧ (∀ j : Nat, j < 300 → v' j = if s j = 0 then -200000 else v j) ∧ (∀ j : Nat, j < 300 → s j ≠ 0 → -100000 ≤ (v j).toInt ∧ (v j).toInt ≤ 100000) ∧ (∀ j : Nat, j < 300 → k j ≠ 0 → s j ≠ 0 ∧ (j : Int) < h.toInt ∧ -100000 ≤ (r j).toInt ∧ (r j).toInt ≤ 100000) ∧ n = pu_cnt k h.toNatClampNeg
def pu_Rel (I : Nat → Int32) (J : Nat → Int64) (A : Nat → Nat → Int32) (L : Nat → Nat → Int64) (i : Nat → Int32) (a : Nat → Nat → Int32) (l9 : Nat → Nat → Int64) : Prop :=
  pu_Rroom (I 1) (I 2) (i 1) (i 2) ∧ pu_Rwall (I 3) (A 0) (A 1) (i 3) (a 0) (a 1) ∧ pu_Rgood (I 4) (I 5) (A 2) (A 3) (i 4) (i 5) (a 2) (a 3) ∧ pu_Rmach (A 4) (A 5) (A 6) (A 7) (A 8) (a 4) (a 5) (a 6) (a 7) ∧ pu_Rnow (J 0) (J 1) (J 2) (L 2) (A 8) (l9 0) ∧ pu_Rbook (L 0) (L 1) (l9 2) ∧ pu_Rrk 0 (I 10) (A 16) (A 17) (a 8) (a 9) (a 10) ∧ pu_Rrk 1 (I 11) (A 18) (A 19) (a 8) (a 9) (a 10) ∧ pu_Rrk 2 (I 12) (A 20) (A 21) (a 8) (a 9) (a 10) ∧ pu_Rrk 3 (I 13) (A 22) (A 23) (a 8) (a 9) (a 10) ∧ a 11 = A 24 ∧ pu_Rrule (I 0) (I 14) (A 25) (A 26) (A 27) (A 28) (i 7) (a 12) (a 13) (a 14) (a 15) ∧ pu_Rah 0 (A 29) (a 16) ∧ pu_Rah 1 (A 30) (a 16) ∧ pu_Rah 2 (A 31) (a 16) ∧ pu_Rah 3 (A 32) (a 16) ∧ pu_Rgau (I 0) (I 15) (A 33) (A 34) (A 35) (A 36) (i 6) (a 17) (a 18) (a 19)
theorem pu_t64 {x : Int32} (h : 0 < x.toInt) : 0 < x.toInt64.toInt := by
  rw [Int32.toInt_toInt64]
  exact h
theorem pu_warm {v : Int32} (hv : 0 < v.toInt) (h : Int64) : fn_Interior_warmth v h = some (pu_by h v.toInt64) := by
  unfold fn_Interior_warmth
  rw [pu_rby _ (pu_t64 hv)]
  rfl
theorem pu_mois {v : Int32} (hv : 0 < v.toInt) (h : Int64) : fn_Interior_moisture v h = some (pu_by h v.toInt64) := by
  unfold fn_Interior_moisture
  rw [pu_rby _ (pu_t64 hv)]
  rfl
theorem pu_i0 : gx_ix (0 : Int32) 12 = true := by decide
theorem pu_i1 : gx_ix (1 : Int32) 12 = true := by decide
theorem pu_i2 : gx_ix (2 : Int32) 12 = true := by decide
theorem pu_o0 : gx_ix (0 : Int32) 1 = true := by decide
theorem pu_mdeg {v : Int32} (hv : 0 < v.toInt) (now : Nat → Int64) : fn_Model_degreesNow v now = some (pu_by (now 0) v.toInt64) := by
  unfold fn_Model_degreesNow
  rw [if_pos pu_i0, pu_mby _ (pu_t64 hv)]
  rfl
theorem pu_mdam {v : Int32} (hv : 0 < v.toInt) (now : Nat → Int64) : fn_Model_dampNow v now = some (pu_by (now 1) v.toInt64) := by
  unfold fn_Model_dampNow
  rw [if_pos pu_i1, pu_mby _ (pu_t64 hv)]
  rfl
theorem pu_a3 {k : Int32} {n : Nat} (c : Int32) (hc : c.toInt = n) (hn : n < 1000000) (h0 : 0 ≤ k.toInt) (h1 : k.toInt < 1000000) : (c + k).toInt = n + k.toInt ∧ (c + k).toNatClampNeg = n + k.toNatClampNeg := by
  have e := pu_add (x := c) (y := k) (by omega) (by omega)
  have e1 : (c + k).toNatClampNeg = (c + k).toInt.toNat := rfl
  have e2 : k.toNatClampNeg = k.toInt.toNat := rfl
  omega
theorem pu_lw {d : Nat → Int32} {k : Int32} (h0 : 0 ≤ k.toInt) (h5 : k.toInt < 5) (hd : 0 < (d k.toNatClampNeg).toInt) (f : Nat → Int64) : fn_Walls_warmth f d k = some (pu_by (f k.toNatClampNeg) (d k.toNatClampNeg).toInt64) := by
  unfold fn_Walls_warmth
  rw [if_pos (pu_ix h0 h5), pu_rby _ (pu_t64 hd)]
  rfl
theorem pu_mlw {d : Nat → Int32} {k : Int32} (h0 : 0 ≤ k.toInt) (h5 : k.toInt < 5) (hd : 0 < (d k.toNatClampNeg).toInt) (now : Nat → Int64) : fn_Model_layerNow now d k = some (pu_by (now (3 + k.toNatClampNeg)) (d k.toNatClampNeg).toInt64) := by
  have e := pu_a3 (k := k) (n := 3) 3 rfl (by omega) h0 (by omega)
  unfold fn_Model_layerNow
  rw [if_pos (pu_ix (by omega) (by omega)), if_pos (pu_ix h0 h5), pu_mby _ (pu_t64 hd), e.2]
  rfl
theorem pu_nn {x n : Int32} (h : 0 ≤ x ∧ x < n) : 0 ≤ x.toInt ∧ x.toInt < n.toInt ∧ (x.toNatClampNeg : Int) = x.toInt := by
  have e : x.toNatClampNeg = x.toInt.toNat := rfl
  have h1 := Int32.le_iff_toInt_le.1 h.1
  have h2 := Int32.lt_iff_toInt_lt.1 h.2
  have z : (0 : Int32).toInt = 0 := rfl
  omega
