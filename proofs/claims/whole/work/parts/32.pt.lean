theorem pu_lnc {now : Nat → Int64} {d d' : Nat → Int32} {k : Int32} (h : d' k.toNatClampNeg = d k.toNatClampNeg) : fn_Model_layerNow now d' k = fn_Model_layerNow now d k := by
  unfold fn_Model_layerNow
  rw [h]
theorem pu_wlc {n v x : Int32} {c d c' d' : Nat → Int32} (hn5 : n.toInt ≤ 5) (hc : ∀ k : Nat, (k : Int) < n.toInt → c' k = c k ∧ d' k = d k) (p : Nat) : ∀ (i : Int32) (now bk : Nat → Int64), 0 ≤ i.toInt → fn_Model_walls_L2 x n c' d' v p i now bk = fn_Model_walls_L2 x n c d v p i now bk := by
  have z0 : (0 : Int32).toInt = 0 := rfl
  have z1 : (1 : Int32).toInt = 1 := rfl
  induction p with
  | zero =>
    intro i now bk h0
    rfl
  | succ p ih =>
    intro i now bk h0
    have it : i.toNatClampNeg = i.toInt.toNat := rfl
    by_cases c1 : n ≤ i
    · by_cases c2 : n ≤ 0
      · simp only [fn_Model_walls_L2, if_pos c1, if_pos c2]
      · have c2' := c2
        rw [Int32.le_iff_toInt_le] at c2'
        have n1 : (n - 1).toInt = n.toInt - 1 := by
          rw [pu_sub (by omega) (by omega), z1]
        have nt : (n - 1).toNatClampNeg = (n - 1).toInt.toNat := rfl
        have e := hc (n - 1).toNatClampNeg (by omega)
        simp only [fn_Model_walls_L2, if_pos c1, if_neg c2, pu_lnc e.2, e.1]
    · have c1' := c1
      rw [Int32.le_iff_toInt_le] at c1'
      have i1 : (i + 1).toInt = i.toInt + 1 := by
        rw [pu_add (by omega) (by omega), z1]
      have e := hc i.toNatClampNeg (by omega)
      have ih' := fun now bk => ih (i + 1) now bk (by omega)
      by_cases c2 : i = 0
      · simp only [fn_Model_walls_L2, if_neg c1, if_pos c2, pu_lnc e.2, e.1, ih']
      · have in0 : i.toInt ≠ 0 := fun hh => c2 (Int32.toInt_inj.1 hh)
        have m1 : (i - 1).toInt = i.toInt - 1 := by
          rw [pu_sub (by omega) (by omega), z1]
        have mt : (i - 1).toNatClampNeg = (i - 1).toInt.toNat := rfl
        have e8 := hc (i - 1).toNatClampNeg (by omega)
        simp only [fn_Model_walls_L2, if_neg c1, if_neg c2, pu_lnc e.2, pu_lnc e8.2, e.1, ih']
theorem pu_wkc {v : Int32} {now : Nat → Int64} {hi lo to ra hi' lo' to' ra' : Nat → Int32} {x : Int32} (h1 : hi' x.toNatClampNeg = hi x.toNatClampNeg) (h2 : lo' x.toNatClampNeg = lo x.toNatClampNeg) (h3 : to' x.toNatClampNeg = to x.toNatClampNeg) (h4 : ra' x.toNatClampNeg = ra x.toNatClampNeg) : fn_Model_works v now hi' lo' to' ra' x = fn_Model_works v now hi lo to ra x := by
  unfold fn_Model_works
  rw [h1, h2, h3, h4]
theorem pu_gbc {v s n g m : Int32} {c d c' d' lev am lo hi ra to lo' hi' ra' to' : Nat → Int32} (hn5 : n.toInt ≤ 5) (hc : ∀ k : Nat, (k : Int) < n.toInt → c' k = c k ∧ d' k = d k) (hm : ∀ k : Nat, k < 4 → lo' k = lo k ∧ hi' k = hi k ∧ ra' k = ra k ∧ to' k = to k) (x1 x2 x3 : Int32) (now bk : Nat → Int64) : fn_Model_goBy v s n g m now bk c' d' am lev hi' lo' to' ra' x1 x2 x3 = fn_Model_goBy v s n g m now bk c d am lev hi lo to ra x1 x2 x3 := by
  have w0 := fun now => pu_wkc (v := v) (now := now) (x := 0) (hm 0 (by decide)).2.1 (hm 0 (by decide)).1 (hm 0 (by decide)).2.2.2 (hm 0 (by decide)).2.2.1
  have w1 := fun now => pu_wkc (v := v) (now := now) (x := 1) (hm 1 (by decide)).2.1 (hm 1 (by decide)).1 (hm 1 (by decide)).2.2.2 (hm 1 (by decide)).2.2.1
  have w2 := fun now => pu_wkc (v := v) (now := now) (x := 2) (hm 2 (by decide)).2.1 (hm 2 (by decide)).1 (hm 2 (by decide)).2.2.2 (hm 2 (by decide)).2.2.1
  have w3 := fun now => pu_wkc (v := v) (now := now) (x := 3) (hm 3 (by decide)).2.1 (hm 3 (by decide)).1 (hm 3 (by decide)).2.2.2 (hm 3 (by decide)).2.2.1
  have ww := fun now bk => pu_wlc (v := v) (x := x1) hn5 hc 400 0 now bk (by decide)
  unfold fn_Model_goBy fn_Model_walls
  simp only [w0, w1, w2, w3, ww]
theorem pu_wfr {v n : Int32} (hn5 : n.toInt ≤ 5) {c d : Nat → Int32} {x : Int32} (p : Nat) : ∀ (i : Int32) (F : Nat → Int64) (h : Int64) (hb F' : Nat → Int64) (h' : Int64) (hb' : Nat → Int64), 0 ≤ i.toInt → fn_Walls_conduct_L2 x n c d v p i F h hb = some (F', h', hb') → ∀ k : Nat, n.toInt ≤ k → F' k = F k := by
  have z0 : (0 : Int32).toInt = 0 := rfl
  have z1 : (1 : Int32).toInt = 1 := rfl
  induction p with
  | zero =>
    intro i F h hb F' h' hb' h0 E
    exact nomatch E
  | succ p ih =>
    intro i F h hb F' h' hb' h0 E k hk
    rw [fn_Walls_conduct_L2] at E
    have it : i.toNatClampNeg = i.toInt.toNat := rfl
    by_cases c1 : n ≤ i
    · rw [if_pos c1] at E
      obtain ⟨j0, j1, E1, E2⟩ := q_b2 E
      have E3 := Option.some.inj E2
      have e1 : j1 = F' := congrArg Prod.fst E3
      by_cases c2 : n ≤ 0
      · rw [if_pos c2] at E1
        have e4 : F = j1 := congrArg Prod.snd (Option.some.inj E1)
        rw [← e1, ← e4]
      · rw [if_neg c2] at E1
        rw [Int32.le_iff_toInt_le] at c2
        have n1 : (n - 1).toInt = n.toInt - 1 := by
          rw [pu_sub (by omega) (by omega), z1]
        have nt : (n - 1).toNatClampNeg = (n - 1).toInt.toNat := rfl
        obtain ⟨_, E1⟩ := q_ix E1
        obtain ⟨r5, E4, E1⟩ := q_b1 E1
        obtain ⟨r6, E5, E1⟩ := q_b1 E1
        have e6 : vp_updL F (n - 1).toNatClampNeg (F (n - 1).toNatClampNeg + r6) = j1 := congrArg Prod.snd (Option.some.inj E1)
        rw [← e1, ← e6]
        exact pk_uLn (by omega)
    · rw [if_neg c1] at E
      rw [Int32.le_iff_toInt_le] at c1
      obtain ⟨j8, E1, E⟩ := q_b1 E
      obtain ⟨_, E⟩ := q_ix E
      obtain ⟨r12, E2, E⟩ := q_b1 E
      obtain ⟨r13, E3, E⟩ := q_b1 E
      obtain ⟨k0, k1, k2, E4, E⟩ := q_b3 E
      have i1 : (i + 1).toInt = i.toInt + 1 := by
        rw [pu_add (by omega) (by omega), z1]
      have r := ih (i + 1) _ _ _ F' h' hb' (by omega) E k hk
      rw [r, pk_uLn (by omega)]
      by_cases c2 : i = 0
      · rw [if_pos c2] at E4
        obtain ⟨t1, t2, E6, E4⟩ := q_b2 E4
        have f0 : F = k0 := congrArg Prod.fst (Option.some.inj E4)
        rw [← f0]
      · rw [if_neg c2] at E4
        have in0 : i.toInt ≠ 0 := fun hh => c2 (Int32.toInt_inj.1 hh)
        have m1 : (i - 1).toInt = i.toInt - 1 := by
          rw [pu_sub (by omega) (by omega), z1]
        have mt : (i - 1).toNatClampNeg = (i - 1).toInt.toNat := rfl
        obtain ⟨_, E4⟩ := q_ix E4
        have f0 : vp_updL F (i - 1).toNatClampNeg (F (i - 1).toNatClampNeg - r13) = k0 := congrArg Prod.fst (Option.some.inj E4)
        rw [← f0]
        exact pk_uLn (by omega)
theorem pu_hfr {v s n g m : Int32} {c d lev am lo hi ra to : Nat → Int32} (hn5 : n.toInt ≤ 5) {x1 x2 x3 : Int32} {h w q : Int64} {F hb wb : Nat → Int64} {ru : Nat → Int32} {h' w' q' : Int64} {hb' wb' F' : Nat → Int64} {ru' : Nat → Int32} (E : fn_House_pass v s h w hb wb n F c d g q m am lev to lo hi ru ra 6 x1 x2 x3 = some (h', hb', w', wb', F', q', ru')) : ∀ k : Nat, n.toInt ≤ k → F' k = F k := by
  unfold fn_House_pass at E
  obtain ⟨a0, a1, a2, a3, Ea, E⟩ := q_b4 E
  obtain ⟨b0, b1, b2, Eb, E⟩ := q_b3 E
  obtain ⟨s0, s1, s2, Es, E⟩ := q_b3 E
  obtain ⟨r0, r1, r2, r3, Er, E⟩ := q_b4 E
  obtain ⟨m0, m1, m2, m3, m4, Em, E⟩ := q_b5 E
  have e2 : b0 = F' := congrArg (fun t => t.2.2.2.2.1) (Option.some.inj E)
  rw [← e2]
  exact pu_wfr hn5 400 0 F a0 a1 b0 b1 b2 (by decide) Eb
theorem pu_dist {T : Int64} (hT : T.toInt.natAbs ≤ 1000000000000) : ∃ D, fn_Room_distanceFromPlanned T = some D ∧ (if 0 ≤ lg_cmp T (18000 : Int64) then (gx_b1 (if lg_cmp T (22000 : Int64) ≤ 0 then some (0 : Int64) else some ((100 : Int64) * (T - (22000 : Int64)))) fun j10_0 => some j10_0) else some ((100 : Int64) * ((18000 : Int64) - T))) = some (100 * D) := by
  have z1 : (18000 : Int64).toInt = 18000 := rfl
  have z2 : (22000 : Int64).toInt = 22000 := rfl
  have z0 : (0 : Int64).toInt = 0 := rfl
  have e1 : (T - 22000).toInt = T.toInt - 22000 := by
    rw [pu_d64, z2] <;> (try rw [z2]) <;> omega
  have e2 : (18000 - T).toInt = 18000 - T.toInt := by
    rw [pu_d64, z1] <;> (try rw [z1]) <;> omega
  unfold fn_Room_distanceFromPlanned
  by_cases c1 : T.toInt < 18000
  · have k1 : T - 22000 < 18000 - T := by
      rw [Int64.lt_iff_toInt_lt]
      omega
    have k2 : ¬ (18000 - T < 0) := by
      rw [Int64.lt_iff_toInt_lt]
      omega
    have k3 : ¬ 0 ≤ lg_cmp T 18000 := by
      rw [lg_cmp_ge, Int64.le_iff_toInt_le]
      omega
    exact ⟨18000 - T, by rw [if_pos k1, if_neg k2], by rw [if_neg k3]⟩
  · have k3 : 0 ≤ lg_cmp T 18000 := by
      rw [lg_cmp_ge, Int64.le_iff_toInt_le]
      omega
    by_cases c2 : T.toInt ≤ 22000
    · have k4 : lg_cmp T 22000 ≤ 0 := by
        rw [lg_cmp_le, Int64.le_iff_toInt_le]
        omega
      refine ⟨0, ?_, by rw [if_pos k3, if_pos k4]; rfl⟩
      by_cases k1 : T - 22000 < 18000 - T
      · rw [if_pos k1]
        by_cases k2 : 18000 - T < 0
        · rw [if_pos k2]
        · rw [if_neg k2]
          rw [Int64.lt_iff_toInt_lt] at k2
          exact congrArg some (Int64.toInt_inj.1 (by omega))
      · rw [if_neg k1]
        by_cases k2 : T - 22000 < 0
        · rw [if_pos k2]
        · rw [if_neg k2]
          rw [Int64.lt_iff_toInt_lt] at k2
          exact congrArg some (Int64.toInt_inj.1 (by omega))
    · have k4 : ¬ lg_cmp T 22000 ≤ 0 := by
        rw [lg_cmp_le, Int64.le_iff_toInt_le]
        omega
      have k1 : ¬ T - 22000 < 18000 - T := by
        rw [Int64.lt_iff_toInt_lt]
        omega
      have k2 : ¬ (T - 22000 < 0) := by
        rw [Int64.lt_iff_toInt_lt]
        omega
      exact ⟨T - 22000, by rw [if_neg k1, if_neg k2], by rw [if_pos k3, if_neg k4]; rfl⟩
theorem pu_cst {v s n g m : Int32} {c d c0 d0 lev am lo hi ra to lo0 hi0 ra0 to0 : Nat → Int32} {lv : Int32} (hv : 0 < v.toInt) (hv2 : v.toInt ≤ 1000) (hs0 : 0 ≤ s.toInt) (hs : s.toInt ≤ 1000) (hn0 : 0 ≤ n.toInt) (hn5 : n.toInt ≤ 5) (hd : ∀ k : Nat, (k : Int) < n.toInt → 0 < (d k).toInt) (hcb : ∀ k : Nat, (k : Int) < n.toInt → 0 ≤ (c k).toInt ∧ (c k).toInt ≤ 100) (hm0 : 0 ≤ m.toInt) (hm6 : m.toInt ≤ 6) (hc : ∀ k : Nat, (k : Int) < n.toInt → c0 k = c k ∧ d0 k = d k) (hm : ∀ k : Nat, k < 4 → upd lo0 (0 : Int32).toNatClampNeg lv k = lo k ∧ upd hi0 (0 : Int32).toNatClampNeg (lv + 500) k = hi k ∧ ra0 k = ra k ∧ to0 k = to k) {X x1 x2 : Int32} (hX : X.toInt ≤ 24) (hx1 : -60000 ≤ x1.toInt) (hx2 : x1.toInt ≤ 60000) (t : Nat) : ∀ p : Nat, t < p → ∀ (S : Int64) (i : Int32) (h w : Int64) (F : Nat → Int64) (q : Int64) (ru : Nat → Int32) (hb wb now bk : Nat → Int64), 0 ≤ i.toInt → i.toInt + t = X.toInt → pu_Rnow h w q F ru now → pu_Mok lo hi ra to ru → pu_sm h F + 100000000 * t ≤ 50000000000 → ∃ (S' h' w' : Int64) (F' : Nat → Int64) (q' : Int64) (ru' : Nat → Int32) (hb' wb' now' bk' : Nat → Int64), fn_Room_costOfLevel_L48 X x1 x2 v s n c d g lo hi ra to m am lev p S i h w F q ru hb wb = some (S', v, s, h', w', n, c, d, F', g, q', lo, hi, ra, to, ru', hb', wb') ∧ fn_Model_tried_L62 lv X x1 x2 lo0 hi0 v s n g m c0 d0 am lev to0 ra0 p S i now bk = some (S', now', upd lo0 (0 : Int32).toNatClampNeg lv, upd hi0 (0 : Int32).toNatClampNeg (lv + 500), bk') ∧ ∀ k : Nat, n.toInt ≤ k → F' k = F k := by
  have z0 : (0 : Int32).toInt = 0 := rfl
  have z1 : (1 : Int32).toInt = 1 := rfl
  induction t with
  | zero =>
    intro p hp S i h w F q ru hb wb now bk h0 hi9 hN hM hS
    obtain ⟨p, rfl⟩ : ∃ p', p = p' + 1 := ⟨p - 1, by omega⟩
    have c1 : X ≤ i := by
      rw [Int32.le_iff_toInt_le]
      omega
    refine ⟨S, h, w, F, q, ru, hb, wb, now, bk, ?_, ?_, fun k _ => rfl⟩
    · rw [fn_Room_costOfLevel_L48, if_pos c1]
    · rw [fn_Model_tried_L62, if_pos c1]
  | succ t ih =>
    intro p hp S i h w F q ru hb wb now bk h0 hi9 hN hM hS
    obtain ⟨p, rfl⟩ : ∃ p', p = p' + 1 := ⟨p - 1, by omega⟩
    have c1 : ¬ X ≤ i := by
      rw [Int32.le_iff_toInt_le]
      omega
    have i1 : (i + 1).toInt = i.toInt + 1 := by
      rw [pu_add (by omega) (by omega), z1]
    obtain ⟨h', hb', w', wb', F', q', ru', now', bk', p1, p2, p3, p4, p5⟩ := pu_pass (s := s) (g := g) (c := c) (lev := lev) (am := am) hv hn0 hn5 hd hm0 hm6 x1 x2 0 hN hM hb wb bk
    have bd := pu_hbd hv hv2 hs0 hs hn5 hd hcb (fun k hk => ⟨(hM k hk).2.2.2.1, (hM k hk).2.2.2.2⟩) hx1 hx2 (x3 := 0) (by omega) (by omega) (by omega) p1
    have fr := pu_hfr hn5 p1
    have G := pu_gbc (v := v) (s := s) (g := g) (m := m) (lev := lev) (am := am) hn5 hc hm x1 x2 0 now bk
    rw [p2] at G
    have sk := pu_smk h' F' (k := 0) (by decide)
    have bb := pu_byb h' (pu_t64 hv)
    obtain ⟨D, D1, D2⟩ := pu_dist (T := pu_by h' v.toInt64) (by
      by_cases c9 : 0 ≤ h'.toInt
      · have := bb.1 c9
        omega
      · have := bb.2 (by omega)
        omega)
    have ou : fn_Machines_output ru' ra 0 = some (if ru' 0 = 0 then (0 : Int32) else ra 0) := by
      unfold fn_Machines_output
      by_cases c9 : ru' 0 = 0
      · rw [if_pos c9]
        exact if_pos (by decide) |>.trans (by rw [show (0 : Int32).toNatClampNeg = 0 from rfl, if_pos c9]; rfl)
      · rw [if_neg c9]
        exact if_pos (by decide) |>.trans (by rw [show (0 : Int32).toNatClampNeg = 0 from rfl, if_neg c9]; rfl)
    have q0 : now' 0 = h' := p3.1
    obtain ⟨S', h2, w2, F2, q2, ru2, hb2, wb2, now2, bk2, y1, y2, y3⟩ := ih p (by omega) (S + ((if ru' 0 = 0 then (0 : Int32) else ra 0).toInt64 + 100 * D)) (i + 1) h' w' F' q' ru' hb' wb' now' bk' (by omega) (by omega) p3 p4 (by omega)
    refine ⟨S', h2, w2, F2, q2, ru2, hb2, wb2, now2, bk2, ?_, ?_, fun k hk => (y3 k hk).trans (fr k hk)⟩
    · rw [fn_Room_costOfLevel_L48, if_neg c1, p1, pu_b7, ou, pu_b1, pu_warm hv, pu_b1, D1, pu_b1]
      exact y1
    · rw [fn_Model_tried_L62, if_neg c1, G, pu_b3, pu_mdeg hv, pu_b1, q0, D2, pu_b1, Int64.add_assoc]
      exact y2
theorem pu_wcp {n : Int32} (hn5 : n.toInt ≤ 5) (c d : Nat → Int32) (F : Nat → Int64) (t : Nat) : ∀ p : Nat, t < p → ∀ (i : Int32) (c1 d1 : Nat → Int32) (F1 : Nat → Int64), 0 ≤ i.toInt → i.toInt + t = n.toInt → (∀ k : Nat, (k : Int) < i.toInt → c1 k = c k ∧ d1 k = d k ∧ F1 k = F k) → ∃ (c2 d2 : Nat → Int32) (F2 : Nat → Int64), fn_Walls_copyFrom_L10 n c d F p i c1 d1 F1 = some (n, c2, d2, F2) ∧ (∀ k : Nat, (k : Int) < n.toInt → c2 k = c k ∧ d2 k = d k ∧ F2 k = F k) ∧ ∀ k : Nat, n.toInt ≤ k → F2 k = F1 k := by
  have z1 : (1 : Int32).toInt = 1 := rfl
  induction t with
  | zero =>
    intro p hp i c1 d1 F1 h0 hi h
    obtain ⟨p, rfl⟩ : ∃ p', p = p' + 1 := ⟨p - 1, by omega⟩
    have g1 : n ≤ i := by
      rw [Int32.le_iff_toInt_le]
      omega
    refine ⟨c1, d1, F1, ?_, fun k hk => h k (by omega), fun k _ => rfl⟩
    rw [fn_Walls_copyFrom_L10, if_pos g1]
  | succ t ih =>
    intro p hp i c1 d1 F1 h0 hi h
    obtain ⟨p, rfl⟩ : ∃ p', p = p' + 1 := ⟨p - 1, by omega⟩
    have g1 : ¬ n ≤ i := by
      rw [Int32.le_iff_toInt_le]
      omega
    have i1 : (i + 1).toInt = i.toInt + 1 := by
      rw [pu_add (by omega) (by omega), z1]
    have it : i.toNatClampNeg = i.toInt.toNat := rfl
    have ix : gx_ix i 5 = true := pu_ix (by omega) (by omega)
    obtain ⟨c2, d2, F2, y1, y2, y3⟩ := ih p (by omega) (i + 1) (upd c1 i.toNatClampNeg (c i.toNatClampNeg)) (upd d1 i.toNatClampNeg (d i.toNatClampNeg)) (vp_updL F1 i.toNatClampNeg (F i.toNatClampNeg)) (by omega) (by omega) (by
      intro k hk
      by_cases e : k = i.toNatClampNeg
      · rw [e]
        exact ⟨if_pos rfl, if_pos rfl, if_pos rfl⟩
      · have := h k (by omega)
        exact ⟨(if_neg e).trans this.1, (if_neg e).trans this.2.1, (if_neg e).trans this.2.2⟩)
    refine ⟨c2, d2, F2, ?_, y2, fun k hk => (y3 k hk).trans (if_neg (by omega))⟩
    rw [fn_Walls_copyFrom_L10, if_neg g1, if_pos ix]
    exact y1
theorem pu_mcp (lo hi ra to ru : Nat → Int32) (t : Nat) : ∀ p : Nat, t < p → ∀ (i : Int32) (lo1 hi1 ra1 to1 ru1 : Nat → Int32), 0 ≤ i.toInt → i.toInt + t = 4 → (∀ k : Nat, (k : Int) < i.toInt → lo1 k = lo k ∧ hi1 k = hi k ∧ ra1 k = ra k ∧ to1 k = vp_nar .boolean (to k) ∧ ru1 k = vp_nar .boolean (ru k)) → ∃ (lo2 hi2 ra2 to2 ru2 : Nat → Int32), fn_Machines_copyFrom_L2 lo hi ra to ru p i lo1 hi1 ra1 to1 ru1 = some (lo2, hi2, ra2, to2, ru2) ∧ ∀ k : Nat, k < 4 → lo2 k = lo k ∧ hi2 k = hi k ∧ ra2 k = ra k ∧ to2 k = vp_nar .boolean (to k) ∧ ru2 k = vp_nar .boolean (ru k) := by
  have z1 : (1 : Int32).toInt = 1 := rfl
  have z4 : (4 : Int32).toInt = 4 := rfl
  induction t with
  | zero =>
    intro p hp i lo1 hi1 ra1 to1 ru1 h0 hi9 h
    obtain ⟨p, rfl⟩ : ∃ p', p = p' + 1 := ⟨p - 1, by omega⟩
    have g1 : (4 : Int32) ≤ i := by
      rw [Int32.le_iff_toInt_le]
      omega
    refine ⟨lo1, hi1, ra1, to1, ru1, ?_, fun k hk => h k (by omega)⟩
    rw [fn_Machines_copyFrom_L2, if_pos g1]
  | succ t ih =>
    intro p hp i lo1 hi1 ra1 to1 ru1 h0 hi9 h
    obtain ⟨p, rfl⟩ : ∃ p', p = p' + 1 := ⟨p - 1, by omega⟩
    have g1 : ¬ (4 : Int32) ≤ i := by
      rw [Int32.le_iff_toInt_le]
      omega
    have i1 : (i + 1).toInt = i.toInt + 1 := by
      rw [pu_add (by omega) (by omega), z1]
    have it : i.toNatClampNeg = i.toInt.toNat := rfl
    have ix : gx_ix i 4 = true := pu_ix (by omega) (by omega)
    rw [fn_Machines_copyFrom_L2, if_neg g1, if_pos ix]
    refine ih p (by omega) (i + 1) _ _ _ _ _ (by omega) (by omega) ?_
    intro k hk
    by_cases e : k = i.toNatClampNeg
    · rw [e]
      exact ⟨if_pos rfl, if_pos rfl, if_pos rfl, if_pos rfl, if_pos rfl⟩
    · have := h k (by omega)
      exact ⟨(if_neg e).trans this.1, (if_neg e).trans this.2.1, (if_neg e).trans this.2.2.1, (if_neg e).trans this.2.2.2.1, (if_neg e).trans this.2.2.2.2⟩
theorem pu_kp37 {x1 x2 x3 u v s n g m : Int32} {now kb bk : Nat → Int64} {to ra lo hi c d am lev : Nat → Int32} (t : Nat) : ∀ p : Nat, t < p → ∀ (i : Int32) (f : Nat → Int64), 0 ≤ i.toInt → i.toInt + t = 12 → (∀ k : Nat, (k : Int) < i.toInt → f k = now k) → ∃ f2 : Nat → Int64, fn_Model_plan_L37 x1 x2 x3 kb to ra now lo hi bk u v s n g m c d am lev p i f = fn_Model_plan_L67 x1 x2 x3 to ra now lo hi bk u f2 v s n g m c d am lev 400 (0 : Int32) kb ∧ (∀ k : Nat, k < 12 → f2 k = now k) := by
  have z1 : (1 : Int32).toInt = 1 := rfl
  have z4 : (12 : Int32).toInt = 12 := rfl
  have w0 : gx_ix (0 : Int32) 4 = true := by decide
  have w8 : gx_ix (8 : Int32) 12 = true := by decide
  induction t with
  | zero =>
    intro p hp i f h0 hi9 h
    obtain ⟨p, rfl⟩ : ∃ p', p = p' + 1 := ⟨p - 1, by omega⟩
    have g1 : (12 : Int32) ≤ i := by
      rw [Int32.le_iff_toInt_le]
      omega
    refine ⟨f, ?_, fun k hk => h k (by omega)⟩
    simp only [fn_Model_plan_L37, if_pos g1, if_pos w0, if_pos w8]
  | succ t ih =>
    intro p hp i f h0 hi9 h
    obtain ⟨p, rfl⟩ : ∃ p', p = p' + 1 := ⟨p - 1, by omega⟩
    have g1 : ¬ (12 : Int32) ≤ i := by
      rw [Int32.le_iff_toInt_le]
      omega
    have i1 : (i + 1).toInt = i.toInt + 1 := by
      rw [pu_add (by omega) (by omega), z1]
    have it : i.toNatClampNeg = i.toInt.toNat := rfl
    have ix : gx_ix i 12 = true := pu_ix (by omega) (by omega)
    rw [fn_Model_plan_L37, if_neg g1, if_pos ix]
    refine ih p (by omega) (i + 1) _ (by omega) (by omega) ?_
    intro k hk
    by_cases e : k = i.toNatClampNeg
    · rw [e]
      exact if_pos rfl
    · exact (if_neg e).trans (h k (by omega))
theorem pu_kp67 {x1 x2 x3 u v s n g m : Int32} {now kp bk : Nat → Int64} {to ra lo hi c d am lev : Nat → Int32} (t : Nat) : ∀ p : Nat, t < p → ∀ (i : Int32) (f : Nat → Int64), 0 ≤ i.toInt → i.toInt + t = 10 → (∀ k : Nat, (k : Int) < i.toInt → f k = bk k) → ∃ f2 : Nat → Int64, fn_Model_plan_L67 x1 x2 x3 to ra now lo hi bk u kp v s n g m c d am lev p i f = (gx_b1 (if (to (0 : Int32).toNatClampNeg) = 0 then some (5000 : Int32) else some (ra (0 : Int32).toNatClampNeg)) fun j13_0 => fn_Model_plan_L163 x1 x2 x3 to ra lo hi u kp f2 j13_0 v s n g m c d am lev 400 (-1 : Int32) (0 : Int64) (18000 : Int32) now lo hi bk) ∧ (∀ k : Nat, k < 10 → f2 k = bk k) := by
  have z1 : (1 : Int32).toInt = 1 := rfl
  have z4 : (10 : Int32).toInt = 10 := rfl
  have w0 : gx_ix (0 : Int32) 4 = true := by decide
  have w8 : gx_ix (8 : Int32) 12 = true := by decide
  induction t with
  | zero =>
    intro p hp i f h0 hi9 h
    obtain ⟨p, rfl⟩ : ∃ p', p = p' + 1 := ⟨p - 1, by omega⟩
    have g1 : (10 : Int32) ≤ i := by
      rw [Int32.le_iff_toInt_le]
      omega
    refine ⟨f, ?_, fun k hk => h k (by omega)⟩
    simp only [fn_Model_plan_L67, if_pos g1, if_pos w0, if_pos w8]
  | succ t ih =>
    intro p hp i f h0 hi9 h
    obtain ⟨p, rfl⟩ : ∃ p', p = p' + 1 := ⟨p - 1, by omega⟩
    have g1 : ¬ (10 : Int32) ≤ i := by
      rw [Int32.le_iff_toInt_le]
      omega
    have i1 : (i + 1).toInt = i.toInt + 1 := by
      rw [pu_add (by omega) (by omega), z1]
    have it : i.toNatClampNeg = i.toInt.toNat := rfl
    have ix : gx_ix i 10 = true := pu_ix (by omega) (by omega)
    rw [fn_Model_plan_L67, if_neg g1, if_pos ix]
    refine ih p (by omega) (i + 1) _ (by omega) (by omega) ?_
    intro k hk
    by_cases e : k = i.toNatClampNeg
    · rw [e]
      exact if_pos rfl
    · exact (if_neg e).trans (h k (by omega))
theorem pu_kp243 {u j b : Int32} {kp kb bk : Nat → Int64} {to ra lo hi lo2 hi2 : Nat → Int32} (t : Nat) : ∀ p : Nat, t < p → ∀ (i : Int32) (f : Nat → Int64), 0 ≤ i.toInt → i.toInt + t = 12 → (∀ k : Nat, (k : Int) < i.toInt → f k = kp k) → ∃ f2 : Nat → Int64, fn_Model_plan_L243 to ra lo hi u kp kb j b lo2 hi2 bk p i f = fn_Model_plan_L273 to ra lo hi u kp kb j b lo2 hi2 f2 400 (0 : Int32) bk ∧ (∀ k : Nat, k < 12 → f2 k = kp k) := by
  have z1 : (1 : Int32).toInt = 1 := rfl
  have z4 : (12 : Int32).toInt = 12 := rfl
  have w0 : gx_ix (0 : Int32) 4 = true := by decide
  have w8 : gx_ix (8 : Int32) 12 = true := by decide
  induction t with
  | zero =>
    intro p hp i f h0 hi9 h
    obtain ⟨p, rfl⟩ : ∃ p', p = p' + 1 := ⟨p - 1, by omega⟩
    have g1 : (12 : Int32) ≤ i := by
      rw [Int32.le_iff_toInt_le]
      omega
    refine ⟨f, ?_, fun k hk => h k (by omega)⟩
    simp only [fn_Model_plan_L243, if_pos g1, if_pos w0, if_pos w8]
  | succ t ih =>
    intro p hp i f h0 hi9 h
    obtain ⟨p, rfl⟩ : ∃ p', p = p' + 1 := ⟨p - 1, by omega⟩
    have g1 : ¬ (12 : Int32) ≤ i := by
      rw [Int32.le_iff_toInt_le]
      omega
    have i1 : (i + 1).toInt = i.toInt + 1 := by
      rw [pu_add (by omega) (by omega), z1]
    have it : i.toNatClampNeg = i.toInt.toNat := rfl
    have ix : gx_ix i 12 = true := pu_ix (by omega) (by omega)
    rw [fn_Model_plan_L243, if_neg g1, if_pos ix]
    refine ih p (by omega) (i + 1) _ (by omega) (by omega) ?_
    intro k hk
    by_cases e : k = i.toNatClampNeg
    · rw [e]
      exact if_pos rfl
    · exact (if_neg e).trans (h k (by omega))
theorem pu_kp273 {u j b : Int32} {kp kb now : Nat → Int64} {to ra lo hi lo2 hi2 : Nat → Int32} (t : Nat) : ∀ p : Nat, t < p → ∀ (i : Int32) (f : Nat → Int64), 0 ≤ i.toInt → i.toInt + t = 10 → (∀ k : Nat, (k : Int) < i.toInt → f k = kb k) → ∃ f2 : Nat → Int64, fn_Model_plan_L273 to ra lo hi u kp kb j b lo2 hi2 now p i f = some (b, u, kp, kb, upd (upd to (0 : Int32).toNatClampNeg (vp_nar .boolean (1 : Int32))) (0 : Int32).toNatClampNeg (vp_nar .boolean (to (0 : Int32).toNatClampNeg)), upd (upd ra (0 : Int32).toNatClampNeg j) (0 : Int32).toNatClampNeg (ra (0 : Int32).toNatClampNeg), now, upd lo2 (0 : Int32).toNatClampNeg (lo (0 : Int32).toNatClampNeg), upd hi2 (0 : Int32).toNatClampNeg (hi (0 : Int32).toNatClampNeg), f2) ∧ (∀ k : Nat, k < 10 → f2 k = kb k) := by
  have z1 : (1 : Int32).toInt = 1 := rfl
  have z4 : (10 : Int32).toInt = 10 := rfl
  have w0 : gx_ix (0 : Int32) 4 = true := by decide
  have w8 : gx_ix (8 : Int32) 12 = true := by decide
  induction t with
  | zero =>
    intro p hp i f h0 hi9 h
    obtain ⟨p, rfl⟩ : ∃ p', p = p' + 1 := ⟨p - 1, by omega⟩
    have g1 : (10 : Int32) ≤ i := by
      rw [Int32.le_iff_toInt_le]
      omega
    refine ⟨f, ?_, fun k hk => h k (by omega)⟩
    simp only [fn_Model_plan_L273, if_pos g1, if_pos w0, if_pos w8]
  | succ t ih =>
    intro p hp i f h0 hi9 h
    obtain ⟨p, rfl⟩ : ∃ p', p = p' + 1 := ⟨p - 1, by omega⟩
    have g1 : ¬ (10 : Int32) ≤ i := by
      rw [Int32.le_iff_toInt_le]
      omega
    have i1 : (i + 1).toInt = i.toInt + 1 := by
      rw [pu_add (by omega) (by omega), z1]
    have it : i.toNatClampNeg = i.toInt.toNat := rfl
    have ix : gx_ix i 10 = true := pu_ix (by omega) (by omega)
    rw [fn_Model_plan_L273, if_neg g1, if_pos ix]
    refine ih p (by omega) (i + 1) _ (by omega) (by omega) ?_
    intro k hk
    by_cases e : k = i.toNatClampNeg
    · rw [e]
      exact if_pos rfl
    · exact (if_neg e).trans (h k (by omega))
theorem pu_kp3 {lv x2 x3 x4 v s n g m : Int32} {kp bk : Nat → Int64} {to ra lo hi c d am lev : Nat → Int32} (t : Nat) : ∀ p : Nat, t < p → ∀ (i : Int32) (f : Nat → Int64), 0 ≤ i.toInt → i.toInt + t = 12 → (∀ k : Nat, (k : Int) < i.toInt → f k = kp k) → ∃ f2 : Nat → Int64, fn_Model_tried_L3 lv x2 x3 x4 lo hi bk v s n g m c d am lev to ra kp p i f = fn_Model_tried_L62 lv x2 x3 x4 lo hi v s n g m c d am lev to ra 400 (0 : Int64) (0 : Int32) (vp_updL f2 (8 : Int32).toNatClampNeg (0 : Int64)) bk ∧ (∀ k : Nat, k < 12 → f2 k = kp k) := by
  have z1 : (1 : Int32).toInt = 1 := rfl
  have z4 : (12 : Int32).toInt = 12 := rfl
  have w0 : gx_ix (0 : Int32) 4 = true := by decide
  have w8 : gx_ix (8 : Int32) 12 = true := by decide
  induction t with
  | zero =>
    intro p hp i f h0 hi9 h
    obtain ⟨p, rfl⟩ : ∃ p', p = p' + 1 := ⟨p - 1, by omega⟩
    have g1 : (12 : Int32) ≤ i := by
      rw [Int32.le_iff_toInt_le]
      omega
    refine ⟨f, ?_, fun k hk => h k (by omega)⟩
    simp only [fn_Model_tried_L3, if_pos g1, if_pos w0, if_pos w8]
  | succ t ih =>
    intro p hp i f h0 hi9 h
    obtain ⟨p, rfl⟩ : ∃ p', p = p' + 1 := ⟨p - 1, by omega⟩
    have g1 : ¬ (12 : Int32) ≤ i := by
      rw [Int32.le_iff_toInt_le]
      omega
    have i1 : (i + 1).toInt = i.toInt + 1 := by
      rw [pu_add (by omega) (by omega), z1]
    have it : i.toNatClampNeg = i.toInt.toNat := rfl
    have ix : gx_ix i 12 = true := pu_ix (by omega) (by omega)
    rw [fn_Model_tried_L3, if_neg g1, if_pos ix]
    refine ih p (by omega) (i + 1) _ (by omega) (by omega) ?_
    intro k hk
    by_cases e : k = i.toNatClampNeg
    · rw [e]
      exact if_pos rfl
    · exact (if_neg e).trans (h k (by omega))
theorem pu_nb {x : Int32} (h : x = 0 ∨ x = 1) : vp_nar .boolean x = x := by
  rcases h with rfl | rfl <;> rfl
theorem pu_col {v s n g m : Int32} {c d lev am lo hi ra to ru : Nat → Int32} (hv : 0 < v.toInt) (hv2 : v.toInt ≤ 1000) (hs0 : 0 ≤ s.toInt) (hs : s.toInt ≤ 1000) (hn0 : 0 ≤ n.toInt) (hn5 : n.toInt ≤ 5) (hd : ∀ k : Nat, (k : Int) < n.toInt → 0 < (d k).toInt) (hcb : ∀ k : Nat, (k : Int) < n.toInt → 0 ≤ (c k).toInt ∧ (c k).toInt ≤ 100) (hm0 : 0 ≤ m.toInt) (hm6 : m.toInt ≤ 6) (hto : ∀ k : Nat, k < 4 → to k = 0 ∨ to k = 1) {X x1 x2 : Int32} (hX0 : 1 ≤ X.toInt) (hX : X.toInt ≤ 24) (hx1 : -60000 ≤ x1.toInt) (hx2 : x1.toInt ≤ 60000) {h w q : Int64} {F kp : Nat → Int64} (hN : pu_Rnow h w q F ru kp) (hM : pu_Mok lo hi ra to ru) (hS : pu_sm h F ≤ 40000000000) {lv : Int32} (hl0 : 0 ≤ lv.toInt) (hl1 : lv.toInt ≤ 100000) {F5 : Nat → Int64} (hF : ∀ k : Nat, n.toInt ≤ k → k < 5 → F5 k = F k) {lo' hi' : Nat → Int32} (hlo : ∀ k : Nat, k ≠ 0 → lo' k = lo k) (hhi : ∀ k : Nat, k ≠ 0 → hi' k = hi k) (now hb wb bk : Nat → Int64) (c1 d1 lo1 hi1 ra1 to1 ru1 : Nat → Int32) : ∃ (S' h' w' : Int64) (F' : Nat → Int64) (q' : Int64) (c2 d2 lo2 hi2 ra2 to2 ru' : Nat → Int32) (hb' wb' now' bk' : Nat → Int64), fn_Room_costOfLevel v s h w n c c1 d d1 F F5 g q lo lo1 hi hi1 ra ra1 to to1 ru ru1 hb wb m am lev lv X x1 x2 = some (S', v, s, h', w', n, c2, d2, F', g, q', lo2, hi2, ra2, to2, ru', hb', wb') ∧ fn_Model_tried v s n g m kp now lo' hi' bk c d am lev (upd to (0 : Int32).toNatClampNeg (vp_nar .boolean (1 : Int32))) (upd ra (0 : Int32).toNatClampNeg (if to (0 : Int32).toNatClampNeg = 0 then (5000 : Int32) else ra (0 : Int32).toNatClampNeg)) lv X x1 x2 = some (S', now', upd lo' (0 : Int32).toNatClampNeg lv, upd hi' (0 : Int32).toNatClampNeg (lv + 500), bk') ∧ ∀ k : Nat, n.toInt ≤ k → k < 5 → F' k = F k := by
  have z0 : (0 : Int32).toInt = 0 := rfl
  have w0 : gx_ix (0 : Int32) 4 = true := by decide
  have zn : (0 : Int32).toNatClampNeg = 0 := rfl
  obtain ⟨c2, d2, F2, a1, a2, a3⟩ := pu_wcp hn5 c d F n.toInt.toNat 400 (by omega) 0 c1 d1 F5 (by omega) (by omega) (fun k hk => absurd hk (by omega))
  obtain ⟨lo2, hi2, ra2, to2, ru2, b1, b2⟩ := pu_mcp lo hi ra to ru 4 400 (by omega) 0 lo1 hi1 ra1 to1 ru1 (by omega) (by omega) (fun k hk => absurd hk (by omega))
  obtain ⟨f2, g1, g2⟩ := pu_kp3 (lv := lv) (x2 := X) (x3 := x1) (x4 := x2) (v := v) (s := s) (n := n) (g := g) (m := m) (kp := kp) (bk := bk) (to := upd to (0 : Int32).toNatClampNeg (vp_nar .boolean (1 : Int32))) (ra := upd ra (0 : Int32).toNatClampNeg (if to (0 : Int32).toNatClampNeg = 0 then (5000 : Int32) else ra (0 : Int32).toNatClampNeg)) (lo := lo') (hi := hi') (c := c) (d := d) (am := am) (lev := lev) 12 400 (by omega) 0 now (by omega) (by omega) (fun k hk => absurd hk (by omega))
  have hF2 : ∀ k : Nat, k < 5 → F2 k = F k := by
    intro k hk
    by_cases e : (k : Int) < n.toInt
    · exact (a2 k e).2.2
    · exact (a3 k (by omega)).trans (hF k (by omega) hk)
  have rr : 0 ≤ (if to (0 : Int32).toNatClampNeg = 0 then (5000 : Int32) else ra (0 : Int32).toNatClampNeg).toInt ∧ (if to (0 : Int32).toNatClampNeg = 0 then (5000 : Int32) else ra (0 : Int32).toNatClampNeg).toInt ≤ 100000 := by
    by_cases e : to (0 : Int32).toNatClampNeg = 0
    · rw [if_pos e]
      exact ⟨by decide, by decide⟩
    · rw [if_neg e]
      exact (hM 0 (by decide)).2.2.2
  have hlv : lv ≤ lv + 500 := by
    have z5 : (500 : Int32).toInt = 500 := rfl
    rw [Int32.le_iff_toInt_le, pu_add (by omega) (by omega)]
    omega
  have u0 : ∀ (f : Nat → Int32) (x : Int32), upd f (0 : Int32).toNatClampNeg x 0 = x := fun f x => if_pos rfl
  have un : ∀ (f : Nat → Int32) (x : Int32) (k : Nat), k ≠ 0 → upd f (0 : Int32).toNatClampNeg x k = f k := fun f x k hk => if_neg hk
  have ROR : fn_Machines_rateOr to ra (0 : Int32) (5000 : Int32) = some (if to (0 : Int32).toNatClampNeg = 0 then (5000 : Int32) else ra (0 : Int32).toNatClampNeg) := by
    unfold fn_Machines_rateOr
    rw [if_pos w0]
    by_cases e : to (0 : Int32).toNatClampNeg = 0
    · rw [if_pos e, if_pos e]
      rfl
    · rw [if_neg e, if_neg e]
      rfl
  generalize hrt : (if to (0 : Int32).toNatClampNeg = 0 then (5000 : Int32) else ra (0 : Int32).toNatClampNeg) = rt at rr ROR g1 ⊢
  have M2 : pu_Mok (upd lo2 (0 : Int32).toNatClampNeg lv) (upd hi2 (0 : Int32).toNatClampNeg (lv + 500)) (upd ra2 (0 : Int32).toNatClampNeg rt) (upd to2 (0 : Int32).toNatClampNeg (vp_nar .boolean (1 : Int32))) (upd ru2 (0 : Int32).toNatClampNeg (vp_nar .boolean (0 : Int32))) := by
    intro k hk
    by_cases e : k = 0
    · rw [e, u0, u0, u0, u0, u0]
      exact ⟨Or.inl rfl, fun hh => absurd hh (by decide), fun _ => hlv, rr.1, rr.2⟩
    · rw [un _ _ _ e, un _ _ _ e, un _ _ _ e, un _ _ _ e, un _ _ _ e]
      obtain ⟨y1, y2, y3, y4, y5⟩ := b2 k hk
      rw [y1, y2, y3, y4, y5, pu_nb (hto k hk), pu_nb (hM k hk).1]
      exact hM k hk
  have N2 : pu_Rnow h w q F2 (upd ru2 (0 : Int32).toNatClampNeg (vp_nar .boolean (0 : Int32))) (vp_updL f2 (8 : Int32).toNatClampNeg (0 : Int64)) := by
    obtain ⟨n1, n2, n3, n4, n5⟩ := hN
    have un8 : ∀ k : Nat, k ≠ 8 → vp_updL f2 (8 : Int32).toNatClampNeg (0 : Int64) k = f2 k := fun k hk => if_neg hk
    refine ⟨?_, ?_, ?_, fun k hk => ?_, fun k hk => ?_⟩
    · rw [un8 0 (by decide), g2 0 (by decide), n1]
    · rw [un8 1 (by decide), g2 1 (by decide), n2]
    · rw [un8 2 (by decide), g2 2 (by decide), n3]
    · rw [un8 _ (by omega), g2 _ (by omega), n4 k hk, hF2 k hk]
    · by_cases e : k = 0
      · rw [e, u0]
        exact if_pos rfl
      · obtain ⟨y1, y2, y3, y4, y5⟩ := b2 k hk
        rw [un8 _ (by omega), g2 _ (by omega), n5 k hk, un _ _ _ e, y5, pu_nb (hM k hk).1]
  have S2 : pu_sm h F2 = pu_sm h F := by
    unfold pu_sm
    rw [hF2 0 (by decide), hF2 1 (by decide), hF2 2 (by decide), hF2 3 (by decide), hF2 4 (by decide)]
  have H2 : ∀ k : Nat, k < 4 → upd lo' (0 : Int32).toNatClampNeg lv k = upd lo2 (0 : Int32).toNatClampNeg lv k ∧ upd hi' (0 : Int32).toNatClampNeg (lv + 500) k = upd hi2 (0 : Int32).toNatClampNeg (lv + 500) k ∧ upd ra (0 : Int32).toNatClampNeg rt k = upd ra2 (0 : Int32).toNatClampNeg rt k ∧ upd to (0 : Int32).toNatClampNeg (vp_nar .boolean (1 : Int32)) k = upd to2 (0 : Int32).toNatClampNeg (vp_nar .boolean (1 : Int32)) k := by
    intro k hk
    by_cases e : k = 0
    · rw [e, u0, u0, u0, u0, u0, u0, u0, u0]
      exact ⟨rfl, rfl, rfl, rfl⟩
    · obtain ⟨y1, y2, y3, y4, y5⟩ := b2 k hk
      rw [un _ _ _ e, un _ _ _ e, un _ _ _ e, un _ _ _ e, un _ _ _ e, un _ _ _ e, un _ _ _ e, un _ _ _ e, y1, y2, y3, y4, pu_nb (hto k hk), hlo k e, hhi k e]
      exact ⟨rfl, rfl, rfl, rfl⟩
  obtain ⟨S', h', w', F', q', ru', hb', wb', now', bk', y1, y2, y3⟩ := pu_cst (v := v) (s := s) (n := n) (g := g) (m := m) (c := c2) (d := d2) (c0 := c) (d0 := d) (lev := lev) (am := am) (lo := upd lo2 (0 : Int32).toNatClampNeg lv) (hi := upd hi2 (0 : Int32).toNatClampNeg (lv + 500)) (ra := upd ra2 (0 : Int32).toNatClampNeg rt) (to := upd to2 (0 : Int32).toNatClampNeg (vp_nar .boolean (1 : Int32))) (lo0 := lo') (hi0 := hi') (ra0 := upd ra (0 : Int32).toNatClampNeg rt) (to0 := upd to (0 : Int32).toNatClampNeg (vp_nar .boolean (1 : Int32))) (lv := lv) hv hv2 hs0 hs hn0 hn5 (fun k hk => by rw [(a2 k hk).2.1]; exact hd k hk) (fun k hk => by rw [(a2 k hk).1]; exact hcb k hk) hm0 hm6 (fun k hk => ⟨(a2 k hk).1.symm, (a2 k hk).2.1.symm⟩) H2 (X := X) (x1 := x1) (x2 := x2) hX hx1 hx2 X.toInt.toNat 400 (by omega) 0 0 h w F2 q (upd ru2 (0 : Int32).toNatClampNeg (vp_nar .boolean (0 : Int32))) hb wb (vp_updL f2 (8 : Int32).toNatClampNeg (0 : Int64)) bk (by omega) (by omega) N2 M2 (by omega)
  refine ⟨S', h', w', F', q', c2, d2, upd lo2 (0 : Int32).toNatClampNeg lv, upd hi2 (0 : Int32).toNatClampNeg (lv + 500), upd ra2 (0 : Int32).toNatClampNeg rt, upd to2 (0 : Int32).toNatClampNeg (vp_nar .boolean (1 : Int32)), ru', hb', wb', now', bk', ?_, ?_, fun k hk h5 => (y3 k hk).trans (hF2 k h5)⟩
  · unfold fn_Room_costOfLevel fn_House_copyFrom fn_Walls_copyFrom fn_Machines_copyFrom fn_Goods_copyFrom fn_Interior_copyFrom
    rw [pu_b4, a1, pu_b4, pu_b2, b1, pu_b5]
    show gx_b1 (fn_Machines_rateOr to ra (0 : Int32) (5000 : Int32)) _ = _
    rw [ROR, pu_b1, fn_Machines_install, if_pos w0, pu_b5]
    exact y1
  · unfold fn_Model_tried
    rw [g1]
    exact y2
