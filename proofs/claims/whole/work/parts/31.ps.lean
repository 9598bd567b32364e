theorem pu_a64 {x y : Int64} (h1 : -9223372036854775808 ≤ x.toInt + y.toInt) (h2 : x.toInt + y.toInt < 9223372036854775808) : (x + y).toInt = x.toInt + y.toInt := by
  rw [Int64.toInt_add]
  exact Int.bmod_eq_of_le_mul_two (by omega) (by omega)
theorem pu_d64 {x y : Int64} (h1 : -9223372036854775808 ≤ x.toInt - y.toInt) (h2 : x.toInt - y.toInt < 9223372036854775808) : (x - y).toInt = x.toInt - y.toInt := by
  rw [Int64.toInt_sub]
  exact Int.bmod_eq_of_le_mul_two (by omega) (by omega)
theorem pu_m64 {x y : Int64} (h1 : -9223372036854775808 ≤ x.toInt * y.toInt) (h2 : x.toInt * y.toInt < 9223372036854775808) : (x * y).toInt = x.toInt * y.toInt := by
  rw [Int64.toInt_mul]
  generalize x.toInt * y.toInt = t at h1 h2
  exact Int.bmod_eq_of_le_mul_two (by omega) (by omega)
theorem pu_n64 {x : Int64} (h : -9223372036854775808 < x.toInt) : (-x).toInt = -x.toInt := by
  have u := x.toInt_lt
  rw [Int64.toInt_neg]
  exact Int.bmod_eq_of_le_mul_two (by omega) (by omega)
theorem pu_mb {a b : Int} {A B : Nat} (ha : a.natAbs ≤ A) (hb : b.natAbs ≤ B) : (a * b).natAbs ≤ A * B := by
  rw [Int.natAbs_mul]
  exact Nat.mul_le_mul ha hb
theorem pu_byI (a : Int64) {b : Int64} (hb : 0 < b.toInt) : (pu_by a b).toInt * b.toInt ≤ a.toInt ∧ a.toInt < (pu_by a b).toInt * b.toInt + b.toInt := by
  have hn : b ≠ -1 := by
    intro h
    rw [h] at hb
    exact absurd hb (by decide)
  have hq : (a / b).toInt = a.toInt.tdiv b.toInt := Int64.toInt_div_of_ne_right _ _ hn
  have l1 := a.le_toInt
  have l2 := a.toInt_lt
  have z1 : (1 : Int64).toInt = 1 := rfl
  unfold pu_by
  by_cases h : 0 ≤ a.toInt
  · rw [Int.tdiv_eq_ediv_of_nonneg h] at hq
    have g1 : a.toInt / b.toInt * b.toInt ≤ a.toInt := Int.ediv_mul_le _ (by omega)
    have g2 : 0 ≤ a.toInt / b.toInt * b.toInt := Int.mul_nonneg (Int.ediv_nonneg h (by omega)) (by omega)
    have g3 : a.toInt < a.toInt / b.toInt * b.toInt + b.toInt := by
      have := Int.lt_ediv_add_one_mul_self a.toInt hb
      rw [Int.add_mul, Int.one_mul] at this
      exact this
    have hm : (a / b * b).toInt = a.toInt / b.toInt * b.toInt := by
      rw [pu_m64, hq] <;> rw [hq] <;> omega
    have c : a / b * b ≤ a := by
      rw [Int64.le_iff_toInt_le, hm]
      exact g1
    rw [if_pos c, hq]
    exact ⟨g1, g3⟩
  · have g1 : (-a.toInt) / b.toInt * b.toInt ≤ -a.toInt := Int.ediv_mul_le _ (by omega)
    have g0 : 0 ≤ (-a.toInt) / b.toInt := Int.ediv_nonneg (by omega) (by omega)
    have g2 : 0 ≤ (-a.toInt) / b.toInt * b.toInt := Int.mul_nonneg g0 (by omega)
    have g3 : -a.toInt < (-a.toInt) / b.toInt * b.toInt + b.toInt := by
      have := Int.lt_ediv_add_one_mul_self (-a.toInt) hb
      rw [Int.add_mul, Int.one_mul] at this
      exact this
    have e : a.toInt.tdiv b.toInt = -((-a.toInt) / b.toInt) := by
      rw [← Int.tdiv_eq_ediv_of_nonneg (by omega), Int.neg_tdiv, Int.neg_neg]
    rw [e] at hq
    have g4 : (-a.toInt) / b.toInt ≤ (-a.toInt) / b.toInt * b.toInt := by
      have := Int.mul_le_mul_of_nonneg_left (show (1 : Int) ≤ b.toInt by omega) g0
      rw [Int.mul_one] at this
      exact this
    generalize hQ : (-a.toInt) / b.toInt = Q at hq g0 g1 g2 g3 g4
    have hm : (a / b * b).toInt = -(Q * b.toInt) := by
      have e9 : (-Q) * b.toInt = -(Q * b.toInt) := Int.neg_mul _ _
      rw [pu_m64, hq, e9] <;> rw [hq, e9] <;> omega
    by_cases c : a / b * b ≤ a
    · rw [if_pos c, hq, Int.neg_mul]
      rw [Int64.le_iff_toInt_le, hm] at c
      omega
    · rw [if_neg c]
      rw [Int64.le_iff_toInt_le, hm] at c
      have e8 : (a / b - 1).toInt = -Q - 1 := by
        rw [pu_d64, hq, z1] <;> rw [hq, z1] <;> omega
      have e9 : (-Q - 1) * b.toInt = -(Q * b.toInt) - b.toInt := by
        rw [Int.sub_mul, Int.neg_mul, Int.one_mul]
      rw [e8, e9]
      omega
theorem pu_byb (a : Int64) {b : Int64} (hb : 0 < b.toInt) : (0 ≤ a.toInt → 0 ≤ (pu_by a b).toInt ∧ (pu_by a b).toInt ≤ a.toInt) ∧ (a.toInt < 0 → a.toInt ≤ (pu_by a b).toInt ∧ (pu_by a b).toInt ≤ -1) := by
  obtain ⟨g1, g2⟩ := pu_byI a hb
  generalize (pu_by a b).toInt = q at g1 g2
  have hb1 : (1 : Int) ≤ b.toInt := by omega
  have m1 : 0 ≤ q → q ≤ q * b.toInt := by
    intro h
    have := Int.mul_le_mul_of_nonneg_left hb1 h
    rw [Int.mul_one] at this
    exact this
  have m2 : q ≤ -1 → q * b.toInt + b.toInt ≤ q + 1 := by
    intro h
    have := Int.mul_le_mul_of_nonneg_left hb1 (show 0 ≤ -(q + 1) by omega)
    rw [Int.mul_one, Int.neg_mul, Int.add_mul, Int.one_mul] at this
    omega
  constructor
  · intro h
    by_cases c : 0 ≤ q
    · have := m1 c
      omega
    · have := m2 (by omega)
      omega
  · intro h
    by_cases c : 0 ≤ q
    · have := m1 c
      omega
    · have := m2 (by omega)
      omega
theorem pu_btw {c D : Int} {M : Int} (h0 : 0 ≤ c) (h1 : c ≤ M) : (0 ≤ D → 0 ≤ c * D ∧ c * D ≤ M * D) ∧ (D ≤ 0 → M * D ≤ c * D ∧ c * D ≤ 0) := by
  constructor
  · intro h
    exact ⟨Int.mul_nonneg h0 h, Int.mul_le_mul_of_nonneg_right h1 h⟩
  · intro h
    have a := Int.mul_nonneg h0 (show 0 ≤ -D by omega)
    have b := Int.mul_le_mul_of_nonneg_right h1 (show 0 ≤ -D by omega)
    rw [Int.mul_neg] at a b
    rw [Int.mul_neg] at b
    omega
theorem pu_flow {c : Int32} (hc0 : 0 ≤ c.toInt) (hc : c.toInt ≤ 100) {x y : Int64} (hx : x.toInt.natAbs ≤ 1000000000000) (hy : y.toInt.natAbs ≤ 1000000000000) : (y.toInt ≤ x.toInt → 0 ≤ (pu_by (c.toInt64 * (x - y)) 100).toInt ∧ (pu_by (c.toInt64 * (x - y)) 100).toInt ≤ x.toInt - y.toInt) ∧ (x.toInt ≤ y.toInt → x.toInt - y.toInt ≤ (pu_by (c.toInt64 * (x - y)) 100).toInt ∧ (pu_by (c.toInt64 * (x - y)) 100).toInt ≤ 0) := by
  have e1 := pu_d64 (x := x) (y := y) (by omega) (by omega)
  have e2 : c.toInt64.toInt = c.toInt := Int32.toInt_toInt64 c
  have mb := pu_mb (a := c.toInt) (b := x.toInt - y.toInt) (A := 100) (B := 2000000000000) (by omega) (by omega)
  have e3 : (c.toInt64 * (x - y)).toInt = c.toInt * (x.toInt - y.toInt) := by
    rw [pu_m64, e1, e2] <;> rw [e1, e2] <;> omega
  have q := pu_byI (c.toInt64 * (x - y)) (b := 100) (by decide)
  have z : (100 : Int64).toInt = 100 := rfl
  rw [e3, z] at q
  have bt := pu_btw (D := x.toInt - y.toInt) hc0 hc
  generalize (pu_by (c.toInt64 * (x - y)) 100).toInt = f at q
  generalize c.toInt * (x.toInt - y.toInt) = t at q bt mb
  constructor
  · intro h
    have := bt.1 (by omega)
    omega
  · intro h
    have := bt.2 (by omega)
    omega
theorem pu_wst {ha hb Ta Tb f : Int} (A1 : 0 ≤ ha → 0 ≤ Ta ∧ Ta ≤ ha) (A2 : ha < 0 → ha ≤ Ta ∧ Ta ≤ -1) (B1 : 0 ≤ hb → 0 ≤ Tb ∧ Tb ≤ hb) (B2 : hb < 0 → hb ≤ Tb ∧ Tb ≤ -1) (F1 : Tb ≤ Ta → 0 ≤ f ∧ f ≤ Ta - Tb) (F2 : Ta ≤ Tb → Ta - Tb ≤ f ∧ f ≤ 0) : (ha - f).natAbs + (hb + f).natAbs ≤ ha.natAbs + hb.natAbs ∧ f.natAbs ≤ ha.natAbs + hb.natAbs := by
  by_cases c1 : 0 ≤ ha
  · have := A1 c1
    by_cases c2 : 0 ≤ hb
    · have := B1 c2
      by_cases c3 : Tb ≤ Ta
      · have := F1 c3
        omega
      · have := F2 (by omega)
        omega
    · have := B2 (by omega)
      have := F1 (by omega)
      omega
  · have := A2 (by omega)
    by_cases c2 : 0 ≤ hb
    · have := B1 c2
      have := F2 (by omega)
      omega
    · have := B2 (by omega)
      by_cases c3 : Tb ≤ Ta
      · have := F1 c3
        omega
      · have := F2 (by omega)
        omega
def pu_sm (h : Int64) (F : Nat → Int64) : Nat := h.toInt.natAbs + (F 0).toInt.natAbs + (F 1).toInt.natAbs + (F 2).toInt.natAbs + (F 3).toInt.natAbs + (F 4).toInt.natAbs
theorem pu_smU (h : Int64) (F : Nat → Int64) {k : Nat} (hk : k < 5) (x : Int64) : pu_sm h (vp_updL F k x) + (F k).toInt.natAbs = pu_sm h F + x.toInt.natAbs := by
  unfold pu_sm
  match k, hk with
  | 0, _ =>
    rw [pk_uLs, pk_uLn (by decide), pk_uLn (by decide), pk_uLn (by decide), pk_uLn (by decide)]
    omega
  | 1, _ =>
    rw [pk_uLs, pk_uLn (by decide), pk_uLn (by decide), pk_uLn (by decide), pk_uLn (by decide)]
    omega
  | 2, _ =>
    rw [pk_uLs, pk_uLn (by decide), pk_uLn (by decide), pk_uLn (by decide), pk_uLn (by decide)]
    omega
  | 3, _ =>
    rw [pk_uLs, pk_uLn (by decide), pk_uLn (by decide), pk_uLn (by decide), pk_uLn (by decide)]
    omega
  | 4, _ =>
    rw [pk_uLs, pk_uLn (by decide), pk_uLn (by decide), pk_uLn (by decide), pk_uLn (by decide)]
    omega
theorem pu_smH (h h' : Int64) (F : Nat → Int64) : pu_sm h' F + h.toInt.natAbs = pu_sm h F + h'.toInt.natAbs := by
  unfold pu_sm
  omega
theorem pu_smk (h : Int64) (F : Nat → Int64) {k : Nat} (hk : k < 5) : h.toInt.natAbs + (F k).toInt.natAbs ≤ pu_sm h F := by
  unfold pu_sm
  match k, hk with
  | 0, _ => omega
  | 1, _ => omega
  | 2, _ => omega
  | 3, _ => omega
  | 4, _ => omega
theorem pu_smk2 (h : Int64) (F : Nat → Int64) {k : Nat} (hk : k + 1 < 5) : (F k).toInt.natAbs + (F (k + 1)).toInt.natAbs ≤ pu_sm h F := by
  unfold pu_sm
  match k, hk with
  | 0, _ =>
    show (F 0).toInt.natAbs + (F 1).toInt.natAbs ≤ _
    omega
  | 1, _ =>
    show (F 1).toInt.natAbs + (F 2).toInt.natAbs ≤ _
    omega
  | 2, _ =>
    show (F 2).toInt.natAbs + (F 3).toInt.natAbs ≤ _
    omega
  | 3, _ =>
    show (F 3).toInt.natAbs + (F 4).toInt.natAbs ≤ _
    omega
theorem pu_wbd {v n : Int32} (hv : 0 < v.toInt) (hn5 : n.toInt ≤ 5) {c d : Nat → Int32} (hd : ∀ k : Nat, (k : Int) < n.toInt → 0 < (d k).toInt) (hc : ∀ k : Nat, (k : Int) < n.toInt → 0 ≤ (c k).toInt ∧ (c k).toInt ≤ 100) {x : Int32} (hx1 : -60000 ≤ x.toInt) (hx2 : x.toInt ≤ 60000) (p : Nat) : ∀ (i : Int32) (F : Nat → Int64) (h : Int64) (hb F' : Nat → Int64) (h' : Int64) (hb' : Nat → Int64), 0 ≤ i.toInt → pu_sm h F ≤ 100000000000 → fn_Walls_conduct_L2 x n c d v p i F h hb = some (F', h', hb') → pu_sm h' F' ≤ pu_sm h F + 60000 := by
  have z0 : (0 : Int32).toInt = 0 := rfl
  have z1 : (1 : Int32).toInt = 1 := rfl
  induction p with
  | zero =>
    intro i F h hb F' h' hb' h0 hS E
    exact nomatch E
  | succ p ih =>
    intro i F h hb F' h' hb' h0 hS E
    rw [fn_Walls_conduct_L2] at E
    have it : i.toNatClampNeg = i.toInt.toNat := rfl
    by_cases c1 : n ≤ i
    · rw [if_pos c1] at E
      obtain ⟨j0, j1, E1, E2⟩ := q_b2 E
      have E3 := Option.some.inj E2
      have e1 : j1 = F' := congrArg Prod.fst E3
      have e2 : h = h' := congrArg (fun t => t.2.1) E3
      by_cases c2 : n ≤ 0
      · rw [if_pos c2] at E1
        have e4 : F = j1 := congrArg Prod.snd (Option.some.inj E1)
        rw [← e2, ← e1, ← e4]
        omega
      · rw [if_neg c2] at E1
        rw [Int32.le_iff_toInt_le] at c2
        have n1 : (n - 1).toInt = n.toInt - 1 := by
          rw [pu_sub (by omega) (by omega), z1]
        have nt : (n - 1).toNatClampNeg = (n - 1).toInt.toNat := rfl
        obtain ⟨_, E1⟩ := q_ix E1
        obtain ⟨r5, E4, E1⟩ := q_b1 E1
        obtain ⟨r6, E5, E1⟩ := q_b1 E1
        have hk5 : (n - 1).toNatClampNeg < 5 := by omega
        have hd9 := hd (n - 1).toNatClampNeg (by omega)
        have hc9 := hc (n - 1).toNatClampNeg (by omega)
        rw [pu_lw (by omega) (by omega) hd9] at E4
        have e4 := Option.some.inj E4
        rw [pu_rby _ (by decide)] at E5
        have e5 := Option.some.inj E5
        have e6 : vp_updL F (n - 1).toNatClampNeg (F (n - 1).toNatClampNeg + r6) = j1 := congrArg Prod.snd (Option.some.inj E1)
        have bb := pu_byb (F (n - 1).toNatClampNeg) (pu_t64 hd9)
        rw [e4] at bb
        have sk := pu_smk h F hk5
        have xe : x.toInt64.toInt = x.toInt := Int32.toInt_toInt64 x
        have fl := pu_flow (c := c (n - 1).toNatClampNeg) hc9.1 hc9.2 (x := x.toInt64) (y := r5) (by omega) (by omega)
        rw [e5, xe] at fl
        have ea : (F (n - 1).toNatClampNeg + r6).toInt = (F (n - 1).toNatClampNeg).toInt + r6.toInt := pu_a64 (by omega) (by omega)
        have su := pu_smU h F hk5 (F (n - 1).toNatClampNeg + r6)
        rw [e6, ea] at su
        rw [← e2, ← e1]
        omega
    · rw [if_neg c1] at E
      rw [Int32.le_iff_toInt_le] at c1
      obtain ⟨j8, E1, E⟩ := q_b1 E
      obtain ⟨_, E⟩ := q_ix E
      obtain ⟨r12, E2, E⟩ := q_b1 E
      obtain ⟨r13, E3, E⟩ := q_b1 E
      obtain ⟨k0, k1, k2, E4, E⟩ := q_b3 E
      have hi5 : i.toNatClampNeg < 5 := by omega
      have hd9 := hd i.toNatClampNeg (by omega)
      have hc9 := hc i.toNatClampNeg (by omega)
      have i1 : (i + 1).toInt = i.toInt + 1 := by
        rw [pu_add (by omega) (by omega), z1]
      rw [pu_lw (by omega) (by omega) hd9] at E2
      have e2 := Option.some.inj E2
      rw [pu_rby _ (by decide)] at E3
      have e3 := Option.some.inj E3
      have bb := pu_byb (F i.toNatClampNeg) (pu_t64 hd9)
      rw [e2] at bb
      by_cases c2 : i = 0
      · rw [if_pos c2] at E1 E4
        have ie : i.toNatClampNeg = 0 := by rw [c2]; rfl
        rw [pu_warm hv, pu_b1] at E1
        have e1 := Option.some.inj E1
        have ba := pu_byb h (pu_t64 hv)
        rw [e1] at ba
        have sk := pu_smk h F hi5
        have fl := pu_flow (c := c i.toNatClampNeg) hc9.1 hc9.2 (x := j8) (y := r12) (by omega) (by omega)
        rw [e3] at fl
        rw [fn_Interior_gainHeat, if_pos pu_g1, pu_b2] at E4
        have E5 := Option.some.inj E4
        have f0 : F = k0 := congrArg Prod.fst E5
        have f1 : h + -r13 = k1 := congrArg (fun t => t.2.1) E5
        have ws := pu_wst (ha := h.toInt) (hb := (F i.toNatClampNeg).toInt) ba.1 ba.2 bb.1 bb.2 fl.1 fl.2
        rw [← f0, ← f1] at E
        have g1 : (-r13).toInt = -r13.toInt := pu_n64 (by omega)
        have g2 : (h + -r13).toInt = h.toInt - r13.toInt := by
          rw [pu_a64, g1] <;> (try rw [g1]) <;> omega
        have g3 : (F i.toNatClampNeg + r13).toInt = (F i.toNatClampNeg).toInt + r13.toInt := pu_a64 (by omega) (by omega)
        have su := pu_smU h F hi5 (F i.toNatClampNeg + r13)
        have sh := pu_smH h (h + -r13) (vp_updL F i.toNatClampNeg (F i.toNatClampNeg + r13))
        rw [g3] at su
        rw [g2] at sh
        have := ih (i + 1) _ _ _ F' h' hb' (by omega) (by omega) E
        omega
      · rw [if_neg c2] at E1 E4
        have in0 : i.toInt ≠ 0 := fun hh => c2 (Int32.toInt_inj.1 hh)
        have m1 : (i - 1).toInt = i.toInt - 1 := by
          rw [pu_sub (by omega) (by omega), z1]
        have mt : (i - 1).toNatClampNeg = (i - 1).toInt.toNat := rfl
        have mi : i.toNatClampNeg = (i - 1).toNatClampNeg + 1 := by omega
        have hd8 := hd (i - 1).toNatClampNeg (by omega)
        rw [pu_lw (by omega) (by omega) hd8, pu_b1] at E1
        have e1 := Option.some.inj E1
        have ba := pu_byb (F (i - 1).toNatClampNeg) (pu_t64 hd8)
        rw [e1] at ba
        obtain ⟨_, E4⟩ := q_ix E4
        have E5 := Option.some.inj E4
        have f0 : vp_updL F (i - 1).toNatClampNeg (F (i - 1).toNatClampNeg - r13) = k0 := congrArg Prod.fst E5
        have f1 : h = k1 := congrArg (fun t => t.2.1) E5
        have hk4 : (i - 1).toNatClampNeg + 1 < 5 := by omega
        have sk := pu_smk2 h F hk4
        rw [mi] at bb
        have fl := pu_flow (c := c i.toNatClampNeg) hc9.1 hc9.2 (x := j8) (y := r12) (by omega) (by omega)
        rw [e3] at fl
        have ws := pu_wst (ha := (F (i - 1).toNatClampNeg).toInt) (hb := (F ((i - 1).toNatClampNeg + 1)).toInt) ba.1 ba.2 bb.1 bb.2 fl.1 fl.2
        have nn : ((i - 1).toNatClampNeg + 1) ≠ (i - 1).toNatClampNeg := by omega
        rw [← f0, ← f1, mi, pk_uLn nn] at E
        have g2 : (F (i - 1).toNatClampNeg - r13).toInt = (F (i - 1).toNatClampNeg).toInt - r13.toInt := pu_d64 (by omega) (by omega)
        have g3 : (F ((i - 1).toNatClampNeg + 1) + r13).toInt = (F ((i - 1).toNatClampNeg + 1)).toInt + r13.toInt := pu_a64 (by omega) (by omega)
        have s1 := pu_smU h F (k := (i - 1).toNatClampNeg) (by omega) (F (i - 1).toNatClampNeg - r13)
        have s2 := pu_smU h (vp_updL F (i - 1).toNatClampNeg (F (i - 1).toNatClampNeg - r13)) hk4 (F ((i - 1).toNatClampNeg + 1) + r13)
        rw [pk_uLn nn] at s2
        rw [g2] at s1
        rw [g3] at s2
        have := ih (i + 1) _ _ _ F' h' hb' (by omega) (by omega) E
        omega
theorem pu_outb {ru ra : Nat → Int32} (hra : ∀ k : Nat, k < 4 → 0 ≤ (ra k).toInt ∧ (ra k).toInt ≤ 100000) {x r : Int32} (E : fn_Machines_output ru ra x = some r) : 0 ≤ r.toInt ∧ r.toInt ≤ 100000 := by
  unfold fn_Machines_output at E
  obtain ⟨hx, E⟩ := q_ix E
  obtain ⟨j, E1, E2⟩ := q_b1 E
  have e2 := Option.some.inj E2
  rw [← e2]
  have hx4 : x.toNatClampNeg < 4 := by
    have h9 : ¬ (x < 0 ∨ 4 ≤ x.toNatClampNeg) := hx
    by_cases c : 4 ≤ x.toNatClampNeg
    · exact absurd (Or.inr c) h9
    · omega
  have hr := hra x.toNatClampNeg hx4
  have z0 : (0 : Int32).toInt = 0 := rfl
  by_cases c : ru x.toNatClampNeg = 0
  · rw [if_pos c] at E1
    have e1 := Option.some.inj E1
    rw [← e1]
    omega
  · rw [if_neg c] at E1
    have e1 := Option.some.inj E1
    rw [← e1]
    exact hr
theorem pu_airb {v s : Int32} (hv : 0 < v.toInt) (hv2 : v.toInt ≤ 1000) (hs0 : 0 ≤ s.toInt) (hs : s.toInt ≤ 1000) {x : Int32} (hx1 : -60000 ≤ x.toInt) (hx2 : x.toInt ≤ 60000) {h : Int64} (hh : h.toInt.natAbs ≤ 100000000000) : (h + pu_by ((s.toInt64 * (x.toInt64 - pu_by h v.toInt64)) * v.toInt64) 1000).toInt.natAbs ≤ h.toInt.natAbs + 60001000 := by
  have ev : v.toInt64.toInt = v.toInt := Int32.toInt_toInt64 v
  have es : s.toInt64.toInt = s.toInt := Int32.toInt_toInt64 s
  have ex : x.toInt64.toInt = x.toInt := Int32.toInt_toInt64 x
  have b1 := pu_byb h (pu_t64 hv)
  have b2 := pu_byI h (pu_t64 hv)
  rw [ev] at b2
  generalize pu_by h v.toInt64 = T at b1 b2 ⊢
  have d1 : (x.toInt64 - T).toInt = x.toInt - T.toInt := by
    rw [pu_d64, ex] <;> (try rw [ex]) <;> omega
  have mb1 := pu_mb (a := s.toInt) (b := x.toInt - T.toInt) (A := 1000) (B := 200000000000) (by omega) (by omega)
  have d2 : (s.toInt64 * (x.toInt64 - T)).toInt = s.toInt * (x.toInt - T.toInt) := by
    rw [pu_m64, es, d1] <;> (try rw [es, d1]) <;> omega
  have mb2 := pu_mb (a := s.toInt * (x.toInt - T.toInt)) (b := v.toInt) (A := 200000000000000) (B := 1000) (by omega) (by omega)
  have d3 : (s.toInt64 * (x.toInt64 - T) * v.toInt64).toInt = s.toInt * (x.toInt - T.toInt) * v.toInt := by
    rw [pu_m64, d2, ev] <;> (try rw [d2, ev]) <;> omega
  have q := pu_byI (s.toInt64 * (x.toInt64 - T) * v.toInt64) (b := 1000) (by decide)
  have z : (1000 : Int64).toInt = 1000 := rfl
  rw [d3, z] at q
  generalize pu_by (s.toInt64 * (x.toInt64 - T) * v.toInt64) 1000 = f at q ⊢
  have ea : s.toInt * (x.toInt - T.toInt) * v.toInt = s.toInt * (x.toInt * v.toInt - T.toInt * v.toInt) := by
    rw [Int.mul_assoc, Int.sub_mul]
  rw [ea] at q
  have mb3 := pu_mb (a := x.toInt) (b := v.toInt) (A := 60000) (B := 1000) (by omega) (by omega)
  have bt := pu_btw (D := x.toInt * v.toInt - T.toInt * v.toInt) hs0 hs
  generalize s.toInt * (x.toInt * v.toInt - T.toInt * v.toInt) = t at q bt
  generalize x.toInt * v.toInt = P at bt mb3
  generalize T.toInt * v.toInt = R at bt b2
  have fb : f.toInt.natAbs ≤ h.toInt.natAbs + 60001000 ∧ (h.toInt + f.toInt).natAbs ≤ h.toInt.natAbs + 60001000 := by
    by_cases c : 0 ≤ P - R
    · have := bt.1 c
      omega
    · have := bt.2 (by omega)
      omega
  rw [pu_a64 (by omega) (by omega)]
  exact fb.2
theorem pu_hbd {v s n g m : Int32} {c d lev am lo hi ra to : Nat → Int32} (hv : 0 < v.toInt) (hv2 : v.toInt ≤ 1000) (hs0 : 0 ≤ s.toInt) (hs : s.toInt ≤ 1000) (hn5 : n.toInt ≤ 5) (hd : ∀ k : Nat, (k : Int) < n.toInt → 0 < (d k).toInt) (hc : ∀ k : Nat, (k : Int) < n.toInt → 0 ≤ (c k).toInt ∧ (c k).toInt ≤ 100) (hra : ∀ k : Nat, k < 4 → 0 ≤ (ra k).toInt ∧ (ra k).toInt ≤ 100000) {x1 x2 x3 : Int32} (hx1 : -60000 ≤ x1.toInt) (hx2 : x1.toInt ≤ 60000) (hx3 : 0 ≤ x3.toInt) (hx4 : x3.toInt ≤ 99) {h w q : Int64} {F hb wb : Nat → Int64} {ru : Nat → Int32} (hS : pu_sm h F ≤ 50000000000) {h' w' q' : Int64} {hb' wb' F' : Nat → Int64} {ru' : Nat → Int32} (E : fn_House_pass v s h w hb wb n F c d g q m am lev to lo hi ru ra 6 x1 x2 x3 = some (h', hb', w', wb', F', q', ru')) : pu_sm h' F' ≤ pu_sm h F + 100000000 := by
  have z0 : (0 : Int32).toInt = 0 := rfl
  unfold fn_House_pass at E
  obtain ⟨a0, a1, a2, a3, Ea, E⟩ := q_b4 E
  obtain ⟨b0, b1, b2, Eb, E⟩ := q_b3 E
  obtain ⟨s0, s1, s2, Es, E⟩ := q_b3 E
  obtain ⟨r0, r1, r2, r3, Er, E⟩ := q_b4 E
  obtain ⟨m0, m1, m2, m3, m4, Em, E⟩ := q_b5 E
  have E9 := Option.some.inj E
  have e1 : m1 = h' := congrArg Prod.fst E9
  have e2 : b0 = F' := congrArg (fun t => t.2.2.2.2.1) E9
  -- the air
  unfold fn_Interior_exchangeAir at Ea
  rw [pu_warm hv, pu_b1, pu_rby _ (by decide), pu_b1, fn_Interior_gainHeat, if_pos pu_g0, pu_b2] at Ea
  obtain ⟨t1, Ea1, Ea⟩ := q_b1 Ea
  obtain ⟨t2, Ea2, Ea⟩ := q_b1 Ea
  obtain ⟨t3, t4, Ea3, Ea⟩ := q_b2 Ea
  have ea : h + pu_by ((s.toInt64 * (x1.toInt64 - pu_by h v.toInt64)) * v.toInt64) 1000 = a0 := congrArg Prod.fst (Option.some.inj Ea)
  have hk := pu_smk h F (k := 0) (by decide)
  have ab := pu_airb hv hv2 hs0 hs hx1 hx2 (h := h) (by omega)
  rw [ea] at ab
  have sa := pu_smH h a0 F
  -- the walls
  have wb := pu_wbd hv hn5 hd hc hx1 hx2 400 0 F a0 a1 b0 b1 b2 (by omega) (by omega) Eb
  -- the visitors
  unfold fn_Interior_receive at Er
  rw [fn_Interior_gainHeat, if_pos pu_g3, pu_b2, fn_Interior_gainWater, if_pos pu_g3, pu_b2] at Er
  have er : b1 + 100 * x3.toInt64 = r0 := congrArg Prod.fst (Option.some.inj Er)
  have ex : x3.toInt64.toInt = x3.toInt := Int32.toInt_toInt64 x3
  have z100 : (100 : Int64).toInt = 100 := rfl
  have ev : (100 * x3.toInt64).toInt = 100 * x3.toInt := by
    rw [pu_m64, z100, ex] <;> (try rw [z100, ex]) <;> omega
  have hk2 := pu_smk b1 b0 (k := 0) (by decide)
  have er2 : r0.toInt = b1.toInt + 100 * x3.toInt := by
    rw [← er, pu_a64, ev] <;> (try rw [ev]) <;> omega
  -- the machines
  unfold fn_Machines_work at Em
  obtain ⟨q1, Em1, Em⟩ := q_b1 Em
  obtain ⟨q2, Em2, Em⟩ := q_b1 Em
  obtain ⟨q3, Em3, Em⟩ := q_b1 Em
  obtain ⟨q4, q5, Em4, Em⟩ := q_b2 Em
  obtain ⟨q6, Em5, Em⟩ := q_b1 Em
  obtain ⟨q7, Em6, Em⟩ := q_b1 Em
  obtain ⟨q8, Em7, Em⟩ := q_b1 Em
  obtain ⟨q9, p1, Em8, Em⟩ := q_b2 Em
  obtain ⟨p2, Em9, Em⟩ := q_b1 Em
  obtain ⟨p3, Ema, Em⟩ := q_b1 Em
  obtain ⟨p4, Emb, Em⟩ := q_b1 Em
  obtain ⟨p5, p6, Emc, Em⟩ := q_b2 Em
  obtain ⟨p7, Emd, Em⟩ := q_b1 Em
  obtain ⟨p8, Eme, Em⟩ := q_b1 Em
  obtain ⟨p9, Emf, Em⟩ := q_b1 Em
  obtain ⟨u1, u2, Emg, Em⟩ := q_b2 Em
  have em : q9 = m1 := congrArg (fun t => t.2.1) (Option.some.inj Em)
  have o1 := pu_outb hra Em3
  have o2 := pu_outb hra Em7
  rw [fn_Interior_gainHeat, if_pos pu_g4] at Em4 Em8
  have f1 : r0 + q3.toInt64 = q4 := congrArg Prod.fst (Option.some.inj Em4)
  have f2 : q4 + (-q8).toInt64 = q9 := congrArg Prod.fst (Option.some.inj Em8)
  have ex3 : q3.toInt64.toInt = q3.toInt := Int32.toInt_toInt64 q3
  have ex8 : (-q8).toInt64.toInt = -q8.toInt := by
    rw [Int32.toInt_toInt64, Int32.toInt_neg]
    exact Int.bmod_eq_of_le_mul_two (by omega) (by omega)
  have g1 : q4.toInt = r0.toInt + q3.toInt := by
    rw [← f1, pu_a64, ex3] <;> (try rw [ex3]) <;> omega
  have g2 : q9.toInt = q4.toInt - q8.toInt := by
    rw [← f2, pu_a64, ex8] <;> (try rw [ex8]) <;> omega
  have sb := pu_smH b1 q9 b0
  rw [← e1, ← e2, ← em]
  omega
