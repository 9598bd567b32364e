theorem pu_b18 {α b1 b2 b3 b4 b5 b6 b7 b8 b9 b10 b11 b12 b13 b14 b15 b16 b17 b18 : Type} (x1 : b1) (x2 : b2) (x3 : b3) (x4 : b4) (x5 : b5) (x6 : b6) (x7 : b7) (x8 : b8) (x9 : b9) (x10 : b10) (x11 : b11) (x12 : b12) (x13 : b13) (x14 : b14) (x15 : b15) (x16 : b16) (x17 : b17) (x18 : b18) (k : b1 → b2 → b3 → b4 → b5 → b6 → b7 → b8 → b9 → b10 → b11 → b12 → b13 → b14 → b15 → b16 → b17 → b18 → Option α) : gx_b18 (some (x1, x2, x3, x4, x5, x6, x7, x8, x9, x10, x11, x12, x13, x14, x15, x16, x17, x18)) k = k x1 x2 x3 x4 x5 x6 x7 x8 x9 x10 x11 x12 x13 x14 x15 x16 x17 x18 := rfl
theorem pu_pll {v s n g m : Int32} {c d lev am lo hi ra to ru : Nat → Int32} (hv : 0 < v.toInt) (hv2 : v.toInt ≤ 1000) (hs0 : 0 ≤ s.toInt) (hs : s.toInt ≤ 1000) (hn0 : 0 ≤ n.toInt) (hn5 : n.toInt ≤ 5) (hd : ∀ k : Nat, (k : Int) < n.toInt → 0 < (d k).toInt) (hcb : ∀ k : Nat, (k : Int) < n.toInt → 0 ≤ (c k).toInt ∧ (c k).toInt ≤ 100) (hm0 : 0 ≤ m.toInt) (hm6 : m.toInt ≤ 6) (hto : ∀ k : Nat, k < 4 → to k = 0 ∨ to k = 1) {X x1 x2 : Int32} (hX0 : 1 ≤ X.toInt) (hX : X.toInt ≤ 24) (hx1 : -60000 ≤ x1.toInt) (hx2 : x1.toInt ≤ 60000) {h w q : Int64} {F kp : Nat → Int64} (hN : pu_Rnow h w q F ru kp) (hM : pu_Mok lo hi ra to ru) (hS : pu_sm h F ≤ 40000000000) (u : Int32) (kb : Nat → Int64) (t : Nat) : ∀ p p9 : Nat, t < p → t < p9 → ∀ (best : Int32) (cost : Int64) (lv : Int32) (v2 s2 : Int32) (h2 w2 : Int64) (n2 : Int32) (c2 d2 : Nat → Int32) (F5 : Nat → Int64) (g2 : Int32) (q2 : Int64) (lo2 hi2 ra2 to2 ru2 : Nat → Int32) (hb wb : Nat → Int64) (now : Nat → Int64) (lo' hi' : Nat → Int32) (bk : Nat → Int64), lv.toInt + 500 * t = 22500 → 18000 ≤ lv.toInt → best ≠ -1 → (∀ k : Nat, n.toInt ≤ k → k < 5 → F5 k = F k) → (∀ k : Nat, k ≠ 0 → lo' k = lo k) → (∀ k : Nat, k ≠ 0 → hi' k = hi k) → ∃ (B : Int32) (v3 s3 : Int32) (h3 w3 : Int64) (n3 : Int32) (c3 d3 : Nat → Int32) (F3 : Nat → Int64) (g3 : Int32) (q3 : Int64) (lo3 hi3 ra3 to3 ru3 : Nat → Int32) (hb3 wb3 : Nat → Int64) (now9 : Nat → Int64) (lo9 hi9 : Nat → Int32) (bk9 : Nat → Int64), fn_Room_plan_L44 X x1 x2 v s h w n c d F g q lo hi ra to ru m am lev p best cost lv v2 s2 h2 w2 n2 c2 d2 F5 g2 q2 lo2 hi2 ra2 to2 ru2 hb wb = some (B, v3, s3, h3, w3, n3, c3, d3, F3, g3, q3, lo3, hi3, ra3, to3, ru3, hb3, wb3) ∧ fn_Model_plan_L163 X x1 x2 to ra lo hi u kp kb (if to (0 : Int32).toNatClampNeg = 0 then (5000 : Int32) else ra (0 : Int32).toNatClampNeg) v s n g m c d am lev p9 best cost lv now lo' hi' bk = fn_Model_plan_L243 to ra lo hi u kp kb (if to (0 : Int32).toNatClampNeg = 0 then (5000 : Int32) else ra (0 : Int32).toNatClampNeg) B lo9 hi9 bk9 400 (0 : Int32) now9 ∧ (∀ k : Nat, n.toInt ≤ k → k < 5 → F3 k = F k) ∧ (∀ k : Nat, k ≠ 0 → lo9 k = lo k) ∧ (∀ k : Nat, k ≠ 0 → hi9 k = hi k) := by
  have z22 : (22000 : Int32).toInt = 22000 := rfl
  have z5 : (500 : Int32).toInt = 500 := rfl
  induction t with
  | zero =>
    intro p p9 hp hp9 best cost lv v2 s2 h2 w2 n2 c2 d2 F5 g2 q2 lo2 hi2 ra2 to2 ru2 hb wb now lo' hi' bk hl hl1 hb9 hF hlo hhi
    obtain ⟨p, rfl⟩ : ∃ p', p = p' + 1 := ⟨p - 1, by omega⟩
    obtain ⟨p9, rfl⟩ : ∃ p', p9 = p' + 1 := ⟨p9 - 1, by omega⟩
    have c1 : (22000 : Int32) < lv := by
      rw [Int32.lt_iff_toInt_lt]
      omega
    refine ⟨best, v2, s2, h2, w2, n2, c2, d2, F5, g2, q2, lo2, hi2, ra2, to2, ru2, hb, wb, now, lo', hi', bk, ?_, ?_, hF, hlo, hhi⟩
    · rw [fn_Room_plan_L44, if_pos c1]
    · rw [fn_Model_plan_L163, if_pos c1]
  | succ t ih =>
    intro p p9 hp hp9 best cost lv v2 s2 h2 w2 n2 c2 d2 F5 g2 q2 lo2 hi2 ra2 to2 ru2 hb wb now lo' hi' bk hl hl1 hb9 hF hlo hhi
    obtain ⟨p, rfl⟩ : ∃ p', p = p' + 1 := ⟨p - 1, by omega⟩
    obtain ⟨p9, rfl⟩ : ∃ p', p9 = p' + 1 := ⟨p9 - 1, by omega⟩
    have c1 : ¬ (22000 : Int32) < lv := by
      rw [Int32.lt_iff_toInt_lt]
      omega
    have l5 : (lv + 500).toInt = lv.toInt + 500 := by
      rw [pu_add (by omega) (by omega), z5]
    have ln : lv ≠ -1 := by
      intro hh
      rw [hh] at hl1
      exact absurd hl1 (by decide)
    obtain ⟨S', h', w', F', q', c4, d4, lo4, hi4, ra4, to4, ru4, hb4, wb4, now4, bk4, y1, y2, y3⟩ := pu_col (g := g) (lev := lev) (am := am) (x2 := x2) hv hv2 hs0 hs hn0 hn5 hd hcb hm0 hm6 hto hX0 hX hx1 hx2 hN hM hS (lv := lv) (by omega) (by omega) hF hlo hhi now hb wb bk c2 d2 lo2 hi2 ra2 to2 ru2
    have un : ∀ (f : Nat → Int32) (x : Int32) (k : Nat), k ≠ 0 → upd f (0 : Int32).toNatClampNeg x k = f k := fun f x k hk => if_neg hk
    rw [fn_Room_plan_L44, if_neg c1, y1, pu_b18, fn_Model_plan_L163, if_neg c1, y2, pu_b5, if_neg hb9]
    by_cases c2' : 0 ≤ lg_cmp S' cost
    · rw [if_pos c2', if_pos c2', pu_b2, pu_b1, pu_b1, if_pos rfl, if_pos rfl, pu_b1, pu_b1]
      exact ih p p9 (by omega) (by omega) _ _ _ _ _ _ _ _ _ _ _ _ _ _ _ _ _ _ _ _ _ _ _ _ (by omega) (by omega) hb9 y3 (fun k hk => (un _ _ _ hk).trans (hlo k hk)) (fun k hk => (un _ _ _ hk).trans (hhi k hk))
    · rw [if_neg c2', if_neg c2', pu_b2, pu_b1, pu_b1, if_neg pu_n0, if_neg pu_n0, pu_b1, pu_b1]
      exact ih p p9 (by omega) (by omega) _ _ _ _ _ _ _ _ _ _ _ _ _ _ _ _ _ _ _ _ _ _ _ _ (by omega) (by omega) ln y3 (fun k hk => (un _ _ _ hk).trans (hlo k hk)) (fun k hk => (un _ _ _ hk).trans (hhi k hk))
def pu_Bd (H s n : Int32) (h : Int64) (c to : Nat → Int32) (F G : Nat → Int64) : Prop := (0 ≤ s.toInt ∧ s.toInt ≤ 1000) ∧ (∀ k : Nat, (k : Int) < n.toInt → 0 ≤ (c k).toInt ∧ (c k).toInt ≤ 100) ∧ (∀ k : Nat, k < 4 → to k = 0 ∨ to k = 1) ∧ (pu_sm h F : Int) ≤ 100000000 * (H.toInt + n.toInt + 1) ∧ ∀ k : Nat, n.toInt ≤ k → k < 5 → G k = F k
def pu_RelB (I : Nat → Int32) (J : Nat → Int64) (A : Nat → Nat → Int32) (L : Nat → Nat → Int64) (i : Nat → Int32) (a : Nat → Nat → Int32) (l9 : Nat → Nat → Int64) : Prop := pu_Rel I J A L i a l9 ∧ pu_Bd (I 0) (I 2) (I 3) (J 0) (A 0) (A 7) (L 2) (L 5)
theorem pu_rinI {x a b : Int32} (h : fn_Room_requireWithin x a b = some (.inr ())) : a ≤ x ∧ x ≤ b := by
  rw [pu_rin] at h
  by_cases c : a ≤ x ∧ x ≤ b
  · exact c
  · rw [if_neg c] at h
    exact nomatch (Option.some.inj h)
theorem pu_rspI {x a : Int32} (h : fn_Room_requireSpace x a = some (.inr ())) : x < a := by
  rw [pu_rsp] at h
  by_cases c : x < a
  · exact c
  · rw [if_neg c] at h
    exact nomatch (Option.some.inj h)
theorem pu_rnc {h w q : Int64} {F now f : Nat → Int64} {ru : Nat → Int32} (hN : pu_Rnow h w q F ru now) (hf : ∀ k : Nat, k < 12 → f k = now k) : pu_Rnow h w q F ru f := by
  obtain ⟨n1, n2, n3, n4, n5⟩ := hN
  exact ⟨(hf 0 (by decide)).trans n1, (hf 1 (by decide)).trans n2, (hf 2 (by decide)).trans n3, fun k hk => (hf _ (by omega)).trans (n4 k hk), fun k hk => (hf _ (by omega)).trans (n5 k hk)⟩
theorem pd_room {I : Nat → Int32} {J : Nat → Int64} {A : Nat → Nat → Int32} {L : Nat → Nat → Int64} {i : Nat → Int32} {a : Nat → Nat → Int32} {l9 : Nat → Nat → Int64} (h : pu_RelB I J A L i a l9) {x1 x2 R1 R2 : Int32} (E : fn_Law_room x1 x2 = some ((0 : Int32), R1, R2)) : pu_Bd (I 0) R2 (I 3) (J 0) (A 0) (A 7) (L 2) (L 5) := by
  unfold fn_Law_room at E
  obtain ⟨b1, b2, E1, E2⟩ := q_b2 E
  have E1 := q_ret E1
  unfold fn_Room_room at E1
  obtain ⟨g1, E1⟩ := q_xr E1
  obtain ⟨g2, E1⟩ := q_xr E1
  have e1 : x2 = b2 := congrArg Prod.snd (Option.some.inj (q_lr E1))
  have e2 : b2 = R2 := congrArg (fun t => t.2.2) (Option.some.inj E2)
  obtain ⟨q1, q2⟩ := pu_rinI g2
  rw [Int32.le_iff_toInt_le] at q1 q2
  have z0 : (0 : Int32).toInt = 0 := rfl
  have z1 : (1000 : Int32).toInt = 1000 := rfl
  rw [← e2, ← e1]
  exact ⟨⟨by omega, by omega⟩, h.2.2⟩
theorem pd_wall {I : Nat → Int32} {J : Nat → Int64} {A : Nat → Nat → Int32} {L : Nat → Nat → Int64} {i : Nat → Int32} {a : Nat → Nat → Int32} {l9 : Nat → Nat → Int64} (h : pu_RelB I J A L i a l9) {o : Nat → Int64} {x1 x2 : Int32} {R1 R2 : Nat → Int32} {R3 : Nat → Int64} {R4 : Int32} {R5 : Nat → Int64} (E : fn_Law_wall (I 3) (A 0) (A 1) (L 2) o x1 x2 = some ((0 : Int32), R1, R2, R3, R4, R5)) : pu_Bd (I 0) (I 2) R4 (J 0) R1 (A 7) R3 (L 5) := by
  obtain ⟨hr, d1, d2, d3, d4, d5⟩ := h
  have n0 := hr.2.1.2.2.2.1
  unfold fn_Law_wall at E
  obtain ⟨b1, b2, b3, b4, b5, E1, E2⟩ := q_b5 E
  have E1 := q_ret E1
  unfold fn_Room_wall at E1
  obtain ⟨g1, E1⟩ := q_xr E1
  obtain ⟨g2, E1⟩ := q_xr E1
  obtain ⟨g3, E1⟩ := q_xr E1
  obtain ⟨k1, k2, k3, k4, k5, E3, E4⟩ := q_b5 (q_lr E1)
  unfold fn_Walls_append at E3
  obtain ⟨_, E3⟩ := q_ix E3
  obtain ⟨_, E2⟩ := q_ix E2
  have a2 : upd (A 0) (I 3).toNatClampNeg x1 = k2 := congrArg (fun t => t.2.1) (Option.some.inj E3)
  have a4 : vp_updL (L 2) (I 3).toNatClampNeg (x2.toInt64 * 20000) = k4 := congrArg (fun t => t.2.2.2.1) (Option.some.inj E3)
  have a5 : I 3 + 1 = k5 := congrArg (fun t => t.2.2.2.2) (Option.some.inj E3)
  have c2 : k2 = b2 := congrArg (fun t => t.2.1) (Option.some.inj E4)
  have c4 : k4 = b4 := congrArg (fun t => t.2.2.2.1) (Option.some.inj E4)
  have c5 : k5 = b5 := congrArg (fun t => t.2.2.2.2) (Option.some.inj E4)
  have f2 : b2 = R1 := congrArg (fun t => t.2.1) (Option.some.inj E2)
  have f4 : b4 = R3 := congrArg (fun t => t.2.2.2.1) (Option.some.inj E2)
  have f5 : b5 = R4 := congrArg (fun t => t.2.2.2.2.1) (Option.some.inj E2)
  have q1 := pu_rspI g1
  obtain ⟨q2, q3⟩ := pu_rinI g2
  obtain ⟨q4, q5⟩ := pu_rinI g3
  rw [Int32.lt_iff_toInt_lt] at q1
  rw [Int32.le_iff_toInt_le] at q2 q3 q4 q5
  have z0 : (0 : Int32).toInt = 0 := rfl
  have z1 : (1 : Int32).toInt = 1 := rfl
  have z5 : (5 : Int32).toInt = 5 := rfl
  have z100 : (100 : Int32).toInt = 100 := rfl
  have z1000 : (1000 : Int32).toInt = 1000 := rfl
  have z2 : (20000 : Int64).toInt = 20000 := rfl
  have nt : (I 3).toNatClampNeg = (I 3).toInt.toNat := rfl
  have n1 : (I 3 + 1).toInt = (I 3).toInt + 1 := by
    rw [pu_add (by omega) (by omega), z1]
  have e2 : x2.toInt64.toInt = x2.toInt := Int32.toInt_toInt64 x2
  have e3 : (x2.toInt64 * 20000).toInt = x2.toInt * 20000 := by
    rw [pu_m64, e2, z2] <;> (try rw [e2, z2]) <;> omega
  rw [← f2, ← c2, ← a2, ← f4, ← c4, ← a4, ← f5, ← c5, ← a5]
  refine ⟨d1, fun k hk => ?_, d3, ?_, fun k hk h5 => ?_⟩
  · by_cases e : k = (I 3).toNatClampNeg
    · rw [e]
      show 0 ≤ (if (I 3).toNatClampNeg = (I 3).toNatClampNeg then x1 else A 0 _).toInt ∧ (if (I 3).toNatClampNeg = (I 3).toNatClampNeg then x1 else A 0 _).toInt ≤ 100
      rw [if_pos rfl]
      omega
    · show 0 ≤ (if k = (I 3).toNatClampNeg then x1 else A 0 k).toInt ∧ (if k = (I 3).toNatClampNeg then x1 else A 0 k).toInt ≤ 100
      rw [if_neg e]
      exact d2 k (by omega)
  · have su := pu_smU (J 0) (L 2) (k := (I 3).toNatClampNeg) (by omega) (x2.toInt64 * 20000)
    rw [e3] at su
    rw [n1]
    omega
  · rw [pk_uLn (by omega)]
    exact d5 k (by omega) h5
theorem pd_machine {I : Nat → Int32} {J : Nat → Int64} {A : Nat → Nat → Int32} {L : Nat → Nat → Int64} {i : Nat → Int32} {a : Nat → Nat → Int32} {l9 : Nat → Nat → Int64} (h : pu_RelB I J A L i a l9) {x1 x2 x3 x4 : Int32} {R1 R2 R3 R4 R5 : Nat → Int32} (E : fn_Law_machine (A 4) (A 5) (A 6) (A 7) (A 8) x1 x2 x3 x4 = some ((0 : Int32), R1, R2, R3, R4, R5)) : pu_Bd (I 0) (I 2) (I 3) (J 0) (A 0) R4 (L 2) (L 5) := by
  obtain ⟨hr, d1, d2, d3, d4, d5⟩ := h
  unfold fn_Law_machine at E
  obtain ⟨b1, b2, b3, b4, b5, E1, E2⟩ := q_b5 E
  have E1 := q_ret E1
  unfold fn_Room_machine at E1
  obtain ⟨g1, E1⟩ := q_xr E1
  obtain ⟨g2, E1⟩ := q_xr E1
  obtain ⟨g3, E1⟩ := q_xr E1
  obtain ⟨g4, E1⟩ := q_xr E1
  obtain ⟨k1, k2, k3, k4, k5, E3, E4⟩ := q_b5 (q_lr E1)
  unfold fn_Machines_install at E3
  obtain ⟨_, E3⟩ := q_ix E3
  have a4 : upd (A 7) x1.toNatClampNeg (vp_nar .boolean (1 : Int32)) = k4 := congrArg (fun t => t.2.2.2.1) (Option.some.inj E3)
  have c4 : k4 = b4 := congrArg (fun t => t.2.2.2.1) (Option.some.inj E4)
  have f4 : b4 = R4 := congrArg (fun t => t.2.2.2.2.1) (Option.some.inj E2)
  rw [← f4, ← c4, ← a4]
  refine ⟨d1, d2, fun k hk => ?_, d4, d5⟩
  by_cases e : k = x1.toNatClampNeg
  · exact Or.inr ((if_pos e).trans rfl)
  · rcases d3 k hk with e9 | e9
    · exact Or.inl ((if_neg e).trans e9)
    · exact Or.inr ((if_neg e).trans e9)
theorem pd_hour {I : Nat → Int32} {J : Nat → Int64} {A : Nat → Nat → Int32} {L : Nat → Nat → Int64} {i : Nat → Int32} {a : Nat → Nat → Int32} {l9 : Nat → Nat → Int64} (h : pu_RelB I J A L i a l9) {o : Nat → Int64} {x1 x2 x3 : Int32} {R1 R3 R6 : Int64} {R2 R4 R5 R15 : Nat → Int64} {R7 R8 R9 R10 R11 R12 R13 : Nat → Int32} {R14 : Int32} (E : fn_Law_hour (I 0) (I 1) (I 2) (J 0) (J 1) (L 0) (L 1) (I 3) (L 2) (A 0) (A 1) (I 4) (J 2) (I 5) (A 3) (A 2) (A 7) (A 4) (A 5) (A 8) (A 6) (A 24) (I 10) (A 16) (A 17) (I 11) (A 18) (A 19) (I 12) (A 20) (A 21) (I 13) (A 22) (A 23) (I 14) (A 25) (A 26) (A 28) (A 29) (A 27) (A 30) (A 31) (A 32) o x1 x2 x3 = some ((0 : Int32), R1, R2, R3, R4, R5, R6, R7, R8, R9, R10, R11, R12, R13, R14, R15)) : pu_Bd R14 (I 2) (I 3) R1 (A 0) (A 7) R5 (L 5) := by
  obtain ⟨hr, d1, d2, d3, d4, d5⟩ := h
  obtain ⟨h1, h2, h3, h4, h5, h6, h7, h8, h9, h10, h11, h12, h13, h14, h15, h16, h17⟩ := hr
  obtain ⟨v1, v2, v3, v4⟩ := h1
  obtain ⟨w1, w2, w3, w4, w5, w6⟩ := h2
  have u1 := h17.2.2.2.1
  have mm := h4.2.2.2.2
  unfold fn_Law_hour at E
  obtain ⟨b1, b2, b3, b4, b5, b6, b7, b8, b9, b10, b11, b12, b13, b14, b15, E1, E2⟩ := q_b15 E
  have E1 := q_ret E1
  unfold fn_Room_hour at E1
  obtain ⟨g1, E1⟩ := q_xr E1
  obtain ⟨g2, E1⟩ := q_xr E1
  obtain ⟨g3, E1⟩ := q_xr E1
  obtain ⟨g4, E1⟩ := q_xr E1
  obtain ⟨y0, y1, y2, y3, y4, y5, y6, E3, E4⟩ := q_b7 (q_lr E1)
  obtain ⟨y7, E5, E4⟩ := q_b1 E4
  obtain ⟨k0, k1, k2, k3, k4, E6, E4⟩ := q_b5 E4
  obtain ⟨_, E2⟩ := q_ix E2
  have a2 : y0 = b2 := congrArg (fun t => t.2.1) (Option.some.inj E4)
  have a6 : y4 = b6 := congrArg (fun t => t.2.2.2.2.2.1) (Option.some.inj E4)
  have a15 : I 0 + 1 = b15 := congrArg (fun t => t.2.2.2.2.2.2.2.2.2.2.2.2.2.2) (Option.some.inj E4)
  have c2 : b2 = R1 := congrArg (fun t => t.2.1) (Option.some.inj E2)
  have c6 : b6 = R5 := congrArg (fun t => t.2.2.2.2.2.1) (Option.some.inj E2)
  have c15 : b15 = R14 := congrArg (fun t => t.2.2.2.2.2.2.2.2.2.2.2.2.2.2.1) (Option.some.inj E2)
  have q1 := pu_rspI g1
  obtain ⟨q2, q3⟩ := pu_rinI g2
  obtain ⟨q4, q5⟩ := pu_rinI g4
  rw [Int32.lt_iff_toInt_lt] at q1
  rw [Int32.le_iff_toInt_le] at q2 q3 q4 q5
  have z0 : (0 : Int32).toInt = 0 := rfl
  have z1 : (1 : Int32).toInt = 1 := rfl
  have z3 : (300 : Int32).toInt = 300 := rfl
  have z6 : (60000 : Int32).toInt = 60000 := rfl
  have z7 : (-60000 : Int32).toInt = -60000 := by decide
  have z9 : (99 : Int32).toInt = 99 := rfl
  have n1 : (I 0 + 1).toInt = (I 0).toInt + 1 := by
    rw [pu_add (by omega) (by omega), z1]
  have bd := pu_hbd (by omega) (by omega) d1.1 d1.2 w5 w6 d2 (fun k hk => ⟨(mm k hk).2.2.2.1, (mm k hk).2.2.2.2⟩) (x1 := x1) (x3 := x3) (by omega) (by omega) (by omega) (by omega) (by omega) E3
  have fr := pu_hfr w5 E3
  rw [← c2, ← a2, ← c6, ← a6, ← c15, ← a15]
  refine ⟨d1, d2, d3, ?_, fun k hk h5 => ?_⟩
  · rw [n1]
    omega
  · rw [fr k hk]
    exact d5 k hk h5
theorem pb_room {I : Nat → Int32} {J : Nat → Int64} {A : Nat → Nat → Int32} {L : Nat → Nat → Int64} {i : Nat → Int32} {a : Nat → Nat → Int32} {l9 : Nat → Nat → Int64} (h : pu_RelB I J A L i a l9) (o : Nat → Int64) (x1 x2 : Int32) : st_room pu_RelB I J A L i a l9 o x1 x2 := by
  have s := ps_room h.1 o x1 x2
  unfold st_room at s ⊢
  rcases s with ⟨R1, R2, S0, S1, S2, e1, e2, e3, e4, e5⟩ | ⟨S0, S1, S2, e1, e2, e3, e5⟩
  · exact Or.inl ⟨R1, R2, S0, S1, S2, e1, e2, e3, e4, e5, pd_room h e1⟩
  · exact Or.inr (⟨S0, S1, S2, e1, e2, e3, e5, h.2⟩)
theorem pb_wall {I : Nat → Int32} {J : Nat → Int64} {A : Nat → Nat → Int32} {L : Nat → Nat → Int64} {i : Nat → Int32} {a : Nat → Nat → Int32} {l9 : Nat → Nat → Int64} (h : pu_RelB I J A L i a l9) (o : Nat → Int64) (x1 x2 : Int32) : st_wall pu_RelB I J A L i a l9 o x1 x2 := by
  have s := ps_wall h.1 o x1 x2
  unfold st_wall at s ⊢
  rcases s with ⟨R1, R2, R3, R4, R5, S0, S1, S2, S3, S4, S5, e1, e2, e3, e4, e5⟩ | ⟨S0, S1, S2, S3, S4, S5, e1, e2, e3, e5⟩ | ⟨S0, S1, S2, S3, S4, S5, e1, e2, e3, e5⟩
  · exact Or.inl ⟨R1, R2, R3, R4, R5, S0, S1, S2, S3, S4, S5, e1, e2, e3, e4, e5, pd_wall h e1⟩
  · exact Or.inr (Or.inl ⟨S0, S1, S2, S3, S4, S5, e1, e2, e3, e5, h.2⟩)
  · exact Or.inr (Or.inr (⟨S0, S1, S2, S3, S4, S5, e1, e2, e3, e5, h.2⟩))
theorem pb_goods {I : Nat → Int32} {J : Nat → Int64} {A : Nat → Nat → Int32} {L : Nat → Nat → Int64} {i : Nat → Int32} {a : Nat → Nat → Int32} {l9 : Nat → Nat → Int64} (h : pu_RelB I J A L i a l9) (o : Nat → Int64) (x1 : Int32) : st_goods pu_RelB I J A L i a l9 o x1 := by
  have s := ps_goods h.1 o x1
  unfold st_goods at s ⊢
  rcases s with ⟨R1, R2, S0, S1, S2, e1, e2, e3, e4, e5⟩ | ⟨S0, S1, S2, e1, e2, e3, e5⟩
  · exact Or.inl ⟨R1, R2, S0, S1, S2, e1, e2, e3, e4, e5, h.2⟩
  · exact Or.inr (⟨S0, S1, S2, e1, e2, e3, e5, h.2⟩)
theorem pb_row {I : Nat → Int32} {J : Nat → Int64} {A : Nat → Nat → Int32} {L : Nat → Nat → Int64} {i : Nat → Int32} {a : Nat → Nat → Int32} {l9 : Nat → Nat → Int64} (h : pu_RelB I J A L i a l9) (o : Nat → Int64) (x1 x2 : Int32) : st_row pu_RelB I J A L i a l9 o x1 x2 := by
  have s := ps_row h.1 o x1 x2
  unfold st_row at s ⊢
  rcases s with ⟨R1, R2, R3, R4, S0, S1, S2, S3, S4, e1, e2, e3, e4, e5⟩ | ⟨S0, S1, S2, S3, S4, e1, e2, e3, e5⟩ | ⟨S0, S1, S2, S3, S4, e1, e2, e3, e5⟩
  · exact Or.inl ⟨R1, R2, R3, R4, S0, S1, S2, S3, S4, e1, e2, e3, e4, e5, h.2⟩
  · exact Or.inr (Or.inl ⟨S0, S1, S2, S3, S4, e1, e2, e3, e5, h.2⟩)
  · exact Or.inr (Or.inr (⟨S0, S1, S2, S3, S4, e1, e2, e3, e5, h.2⟩))
theorem pb_machine {I : Nat → Int32} {J : Nat → Int64} {A : Nat → Nat → Int32} {L : Nat → Nat → Int64} {i : Nat → Int32} {a : Nat → Nat → Int32} {l9 : Nat → Nat → Int64} (h : pu_RelB I J A L i a l9) (o : Nat → Int64) (x1 x2 x3 x4 : Int32) : st_machine pu_RelB I J A L i a l9 o x1 x2 x3 x4 := by
  have s := ps_machine h.1 o x1 x2 x3 x4
  unfold st_machine at s ⊢
  rcases s with ⟨R1, R2, R3, R4, R5, S0, S1, S2, S3, S4, S5, e1, e2, e3, e4, e5⟩ | ⟨S0, S1, S2, S3, S4, S5, e1, e2, e3, e5⟩ | ⟨S0, S1, S2, S3, S4, S5, e1, e2, e3, e5⟩
  · exact Or.inl ⟨R1, R2, R3, R4, R5, S0, S1, S2, S3, S4, S5, e1, e2, e3, e4, e5, pd_machine h e1⟩
  · exact Or.inr (Or.inl ⟨S0, S1, S2, S3, S4, S5, e1, e2, e3, e5, h.2⟩)
  · exact Or.inr (Or.inr (⟨S0, S1, S2, S3, S4, S5, e1, e2, e3, e5, h.2⟩))
theorem pb_hour {I : Nat → Int32} {J : Nat → Int64} {A : Nat → Nat → Int32} {L : Nat → Nat → Int64} {i : Nat → Int32} {a : Nat → Nat → Int32} {l9 : Nat → Nat → Int64} (h : pu_RelB I J A L i a l9) (o : Nat → Int64) (x1 x2 x3 : Int32) : st_hour pu_RelB I J A L i a l9 o x1 x2 x3 := by
  have s := ps_hour h.1 o x1 x2 x3
  unfold st_hour at s ⊢
  rcases s with ⟨R1, R2, R3, R4, R5, R6, R7, R8, R9, R10, R11, R12, R13, R14, R15, S0, S1, S2, S3, S4, S5, S6, S7, e1, e2, e3, e4, e5⟩ | ⟨S0, S1, S2, S3, S4, S5, S6, S7, e1, e2, e3, e5⟩ | ⟨S0, S1, S2, S3, S4, S5, S6, S7, e1, e2, e3, e5⟩
  · exact Or.inl ⟨R1, R2, R3, R4, R5, R6, R7, R8, R9, R10, R11, R12, R13, R14, R15, S0, S1, S2, S3, S4, S5, S6, S7, e1, e2, e3, e4, e5, pd_hour h e1⟩
  · exact Or.inr (Or.inl ⟨S0, S1, S2, S3, S4, S5, S6, S7, e1, e2, e3, e5, h.2⟩)
  · exact Or.inr (Or.inr (⟨S0, S1, S2, S3, S4, S5, S6, S7, e1, e2, e3, e5, h.2⟩))
theorem pb_degrees {I : Nat → Int32} {J : Nat → Int64} {A : Nat → Nat → Int32} {L : Nat → Nat → Int64} {i : Nat → Int32} {a : Nat → Nat → Int32} {l9 : Nat → Nat → Int64} (h : pu_RelB I J A L i a l9) (o : Nat → Int64)  : st_degrees pu_RelB I J A L i a l9 o  := by
  have s := ps_degrees h.1 o 
  unfold st_degrees at s ⊢
  obtain ⟨R0, S0, S1, e1, e2, e3, e5⟩ := s
  exact ⟨R0, S0, S1, e1, e2, e3, e5, h.2⟩
theorem pb_damp {I : Nat → Int32} {J : Nat → Int64} {A : Nat → Nat → Int32} {L : Nat → Nat → Int64} {i : Nat → Int32} {a : Nat → Nat → Int32} {l9 : Nat → Nat → Int64} (h : pu_RelB I J A L i a l9) (o : Nat → Int64)  : st_damp pu_RelB I J A L i a l9 o  := by
  have s := ps_damp h.1 o 
  unfold st_damp at s ⊢
  obtain ⟨R0, S0, S1, e1, e2, e3, e5⟩ := s
  exact ⟨R0, S0, S1, e1, e2, e3, e5, h.2⟩
theorem pb_layer {I : Nat → Int32} {J : Nat → Int64} {A : Nat → Nat → Int32} {L : Nat → Nat → Int64} {i : Nat → Int32} {a : Nat → Nat → Int32} {l9 : Nat → Nat → Int64} (h : pu_RelB I J A L i a l9) (o : Nat → Int64) (x1 : Int32) : st_layer pu_RelB I J A L i a l9 o x1 := by
  have s := ps_layer h.1 o x1
  unfold st_layer at s ⊢
  rcases s with ⟨R1, S0, S1, e1, e2, e3, e4, e5⟩ | ⟨S0, S1, e1, e2, e3, e5⟩
  · exact Or.inl ⟨R1, S0, S1, e1, e2, e3, e4, e5, h.2⟩
  · exact Or.inr (⟨S0, S1, e1, e2, e3, e5, h.2⟩)
theorem pb_held {I : Nat → Int32} {J : Nat → Int64} {A : Nat → Nat → Int32} {L : Nat → Nat → Int64} {i : Nat → Int32} {a : Nat → Nat → Int32} {l9 : Nat → Nat → Int64} (h : pu_RelB I J A L i a l9) (o : Nat → Int64)  : st_held pu_RelB I J A L i a l9 o  := by
  have s := ps_held h.1 o 
  unfold st_held at s ⊢
  obtain ⟨R0, S0, S1, e1, e2, e3, e5⟩ := s
  exact ⟨R0, S0, S1, e1, e2, e3, e5, h.2⟩
theorem pb_on {I : Nat → Int32} {J : Nat → Int64} {A : Nat → Nat → Int32} {L : Nat → Nat → Int64} {i : Nat → Int32} {a : Nat → Nat → Int32} {l9 : Nat → Nat → Int64} (h : pu_RelB I J A L i a l9) (o : Nat → Int64) (x1 : Int32) : st_on pu_RelB I J A L i a l9 o x1 := by
  have s := ps_on h.1 o x1
  unfold st_on at s ⊢
  rcases s with ⟨R1, S0, S1, e1, e2, e3, e4, e5⟩ | ⟨S0, S1, e1, e2, e3, e5⟩
  · exact Or.inl ⟨R1, S0, S1, e1, e2, e3, e4, e5, h.2⟩
  · exact Or.inr (⟨S0, S1, e1, e2, e3, e5, h.2⟩)
theorem pb_book {I : Nat → Int32} {J : Nat → Int64} {A : Nat → Nat → Int32} {L : Nat → Nat → Int64} {i : Nat → Int32} {a : Nat → Nat → Int32} {l9 : Nat → Nat → Int64} (h : pu_RelB I J A L i a l9) (o : Nat → Int64) (x1 x2 : Int32) : st_book pu_RelB I J A L i a l9 o x1 x2 := by
  have s := ps_book h.1 o x1 x2
  unfold st_book at s ⊢
  rcases s with ⟨R1, S0, S1, e1, e2, e3, e4, e5⟩ | ⟨S0, S1, e1, e2, e3, e5⟩
  · exact Or.inl ⟨R1, S0, S1, e1, e2, e3, e4, e5, h.2⟩
  · exact Or.inr (⟨S0, S1, e1, e2, e3, e5, h.2⟩)
theorem pb_dew {I : Nat → Int32} {J : Nat → Int64} {A : Nat → Nat → Int32} {L : Nat → Nat → Int64} {i : Nat → Int32} {a : Nat → Nat → Int32} {l9 : Nat → Nat → Int64} (h : pu_RelB I J A L i a l9) (o : Nat → Int64) (x1 : Int32) : st_dew pu_RelB I J A L i a l9 o x1 := by
  have s := ps_dew h.1 o x1
  unfold st_dew at s ⊢
  rcases s with ⟨R1, S0, S1, e1, e2, e3, e4, e5⟩ | ⟨S0, S1, e1, e2, e3, e5⟩
  · exact Or.inl ⟨R1, S0, S1, e1, e2, e3, e4, e5, h.2⟩
  · exact Or.inr (⟨S0, S1, e1, e2, e3, e5, h.2⟩)
theorem pb_risk {I : Nat → Int32} {J : Nat → Int64} {A : Nat → Nat → Int32} {L : Nat → Nat → Int64} {i : Nat → Int32} {a : Nat → Nat → Int32} {l9 : Nat → Nat → Int64} (h : pu_RelB I J A L i a l9) (o : Nat → Int64) (x1 x2 x3 : Int32) : st_risk pu_RelB I J A L i a l9 o x1 x2 x3 := by
  have s := ps_risk h.1 o x1 x2 x3
  unfold st_risk at s ⊢
  rcases s with ⟨R1, R2, R3, R4, R5, R6, R7, R8, R9, R10, R11, R12, R13, S0, S1, S2, S3, S4, e1, e2, e3, e4, e5⟩ | ⟨S0, S1, S2, S3, S4, e1, e2, e3, e5⟩ | ⟨S0, S1, S2, S3, S4, e1, e2, e3, e5⟩ | ⟨S0, S1, S2, S3, S4, e1, e2, e3, e5⟩
  · exact Or.inl ⟨R1, R2, R3, R4, R5, R6, R7, R8, R9, R10, R11, R12, R13, S0, S1, S2, S3, S4, e1, e2, e3, e4, e5, h.2⟩
  · exact Or.inr (Or.inl ⟨S0, S1, S2, S3, S4, e1, e2, e3, e5, h.2⟩)
  · exact Or.inr (Or.inr (Or.inl ⟨S0, S1, S2, S3, S4, e1, e2, e3, e5, h.2⟩))
  · exact Or.inr (Or.inr (Or.inr (⟨S0, S1, S2, S3, S4, e1, e2, e3, e5, h.2⟩)))
theorem pb_points {I : Nat → Int32} {J : Nat → Int64} {A : Nat → Nat → Int32} {L : Nat → Nat → Int64} {i : Nat → Int32} {a : Nat → Nat → Int32} {l9 : Nat → Nat → Int64} (h : pu_RelB I J A L i a l9) (o : Nat → Int64) (x1 : Int32) : st_points pu_RelB I J A L i a l9 o x1 := by
  have s := ps_points h.1 o x1
  unfold st_points at s ⊢
  rcases s with ⟨R1, S0, S1, e1, e2, e3, e4, e5⟩ | ⟨S0, S1, e1, e2, e3, e5⟩
  · exact Or.inl ⟨R1, S0, S1, e1, e2, e3, e4, e5, h.2⟩
  · exact Or.inr (⟨S0, S1, e1, e2, e3, e5, h.2⟩)
theorem pb_rule {I : Nat → Int32} {J : Nat → Int64} {A : Nat → Nat → Int32} {L : Nat → Nat → Int64} {i : Nat → Int32} {a : Nat → Nat → Int32} {l9 : Nat → Nat → Int64} (h : pu_RelB I J A L i a l9) (o : Nat → Int64) (x1 x2 x3 : Int32) : st_rule pu_RelB I J A L i a l9 o x1 x2 x3 := by
  have s := ps_rule h.1 o x1 x2 x3
  unfold st_rule at s ⊢
  rcases s with ⟨R1, R2, R3, R4, R5, S0, S1, S2, S3, S4, S5, e1, e2, e3, e4, e5⟩ | ⟨S0, S1, S2, S3, S4, S5, e1, e2, e3, e5⟩ | ⟨S0, S1, S2, S3, S4, S5, e1, e2, e3, e5⟩
  · exact Or.inl ⟨R1, R2, R3, R4, R5, S0, S1, S2, S3, S4, S5, e1, e2, e3, e4, e5, h.2⟩
  · exact Or.inr (Or.inl ⟨S0, S1, S2, S3, S4, S5, e1, e2, e3, e5, h.2⟩)
  · exact Or.inr (Or.inr (⟨S0, S1, S2, S3, S4, S5, e1, e2, e3, e5, h.2⟩))
theorem pb_alarm {I : Nat → Int32} {J : Nat → Int64} {A : Nat → Nat → Int32} {L : Nat → Nat → Int64} {i : Nat → Int32} {a : Nat → Nat → Int32} {l9 : Nat → Nat → Int64} (h : pu_RelB I J A L i a l9) (o : Nat → Int64) (x1 x2 : Int32) : st_alarm pu_RelB I J A L i a l9 o x1 x2 := by
  have s := ps_alarm h.1 o x1 x2
  unfold st_alarm at s ⊢
  rcases s with ⟨R1, S0, S1, e1, e2, e3, e4, e5⟩ | ⟨S0, S1, e1, e2, e3, e5⟩
  · exact Or.inl ⟨R1, S0, S1, e1, e2, e3, e4, e5, h.2⟩
  · exact Or.inr (⟨S0, S1, e1, e2, e3, e5, h.2⟩)
theorem pb_sensor {I : Nat → Int32} {J : Nat → Int64} {A : Nat → Nat → Int32} {L : Nat → Nat → Int64} {i : Nat → Int32} {a : Nat → Nat → Int32} {l9 : Nat → Nat → Int64} (h : pu_RelB I J A L i a l9) (o : Nat → Int64) (x1 x2 : Int32) : st_sensor pu_RelB I J A L i a l9 o x1 x2 := by
  have s := ps_sensor h.1 o x1 x2
  unfold st_sensor at s ⊢
  rcases s with ⟨R1, R2, S0, S1, e1, e2, e3, e4, e5⟩ | ⟨S0, S1, e1, e2, e3, e5⟩ | ⟨S0, S1, e1, e2, e3, e5⟩
  · exact Or.inl ⟨R1, R2, S0, S1, e1, e2, e3, e4, e5, h.2⟩
  · exact Or.inr (Or.inl ⟨S0, S1, e1, e2, e3, e5, h.2⟩)
  · exact Or.inr (Or.inr (⟨S0, S1, e1, e2, e3, e5, h.2⟩))
theorem pb_check {I : Nat → Int32} {J : Nat → Int64} {A : Nat → Nat → Int32} {L : Nat → Nat → Int64} {i : Nat → Int32} {a : Nat → Nat → Int32} {l9 : Nat → Nat → Int64} (h : pu_RelB I J A L i a l9) (o : Nat → Int64) (x1 x2 : Int32) : st_check pu_RelB I J A L i a l9 o x1 x2 := by
  have s := ps_check h.1 o x1 x2
  unfold st_check at s ⊢
  rcases s with ⟨R1, R2, R3, S0, S1, S2, e1, e2, e3, e4, e5⟩ | ⟨S0, S1, S2, e1, e2, e3, e5⟩ | ⟨S0, S1, S2, e1, e2, e3, e5⟩ | ⟨S0, S1, S2, e1, e2, e3, e5⟩
  · exact Or.inl ⟨R1, R2, R3, S0, S1, S2, e1, e2, e3, e4, e5, h.2⟩
  · exact Or.inr (Or.inl ⟨S0, S1, S2, e1, e2, e3, e5, h.2⟩)
  · exact Or.inr (Or.inr (Or.inl ⟨S0, S1, S2, e1, e2, e3, e5, h.2⟩))
  · exact Or.inr (Or.inr (Or.inr (⟨S0, S1, S2, e1, e2, e3, e5, h.2⟩)))
theorem pb_corrected {I : Nat → Int32} {J : Nat → Int64} {A : Nat → Nat → Int32} {L : Nat → Nat → Int64} {i : Nat → Int32} {a : Nat → Nat → Int32} {l9 : Nat → Nat → Int64} (h : pu_RelB I J A L i a l9) (o : Nat → Int64) (x1 : Int32) : st_corrected pu_RelB I J A L i a l9 o x1 := by
  have s := ps_corrected h.1 o x1
  unfold st_corrected at s ⊢
  rcases s with ⟨R1, S0, S1, e1, e2, e3, e4, e5⟩ | ⟨S0, S1, e1, e2, e3, e5⟩
  · exact Or.inl ⟨R1, S0, S1, e1, e2, e3, e4, e5, h.2⟩
  · exact Or.inr (⟨S0, S1, e1, e2, e3, e5, h.2⟩)
theorem pb_silent {I : Nat → Int32} {J : Nat → Int64} {A : Nat → Nat → Int32} {L : Nat → Nat → Int64} {i : Nat → Int32} {a : Nat → Nat → Int32} {l9 : Nat → Nat → Int64} (h : pu_RelB I J A L i a l9) (o : Nat → Int64) (x1 : Int32) : st_silent pu_RelB I J A L i a l9 o x1 := by
  have s := ps_silent h.1 o x1
  unfold st_silent at s ⊢
  rcases s with ⟨R1, S0, S1, e1, e2, e3, e4, e5⟩ | ⟨S0, S1, e1, e2, e3, e5⟩
  · exact Or.inl ⟨R1, S0, S1, e1, e2, e3, e4, e5, h.2⟩
  · exact Or.inr (⟨S0, S1, e1, e2, e3, e5, h.2⟩)
theorem pb_count {I : Nat → Int32} {J : Nat → Int64} {A : Nat → Nat → Int32} {L : Nat → Nat → Int64} {i : Nat → Int32} {a : Nat → Nat → Int32} {l9 : Nat → Nat → Int64} (h : pu_RelB I J A L i a l9) (o : Nat → Int64) (x1 : Int32) : st_count pu_RelB I J A L i a l9 o x1 := by
  have s := ps_count h.1 o x1
  unfold st_count at s ⊢
  rcases s with ⟨R1, S0, S1, e1, e2, e3, e4, e5⟩ | ⟨S0, S1, e1, e2, e3, e5⟩
  · exact Or.inl ⟨R1, S0, S1, e1, e2, e3, e4, e5, h.2⟩
  · exact Or.inr (⟨S0, S1, e1, e2, e3, e5, h.2⟩)
theorem pb_plan {I : Nat → Int32} {J : Nat → Int64} {A : Nat → Nat → Int32} {L : Nat → Nat → Int64} {i : Nat → Int32} {a : Nat → Nat → Int32} {l9 : Nat → Nat → Int64} (h : pu_RelB I J A L i a l9) (o : Nat → Int64) (x1 x2 x3 : Int32) : st_plan pu_RelB I J A L i a l9 o x1 x2 x3 := by
  obtain ⟨hr, d1, d2, d3, d4, d5⟩ := h
  obtain ⟨h1, h2, h3, h4, h5, h6, h7, h8, h9, h10, h11, h12, h13, h14, h15, h16, h17⟩ := hr
  obtain ⟨v1, v2, v3, v4⟩ := h1
  obtain ⟨w1, w2, w3, w4, w5, w6⟩ := h2
  obtain ⟨t1, t2, t3, t4, t5, t6⟩ := h3
  obtain ⟨m1, m2, m3, m4, m5⟩ := h4
  have u1 := h17.2.2.2.1
  have u3 := h17.2.2.2.2.1
  unfold st_plan
  have z0 : (0 : Int32).toInt = 0 := rfl
  by_cases c1 : 1 ≤ x1 ∧ x1 ≤ 24
  · by_cases c2 : (-60000 ≤ x2 ∧ x2 ≤ 60000) ∧ (0 ≤ x3 ∧ x3 ≤ 60000)
    · have q1 := Int32.le_iff_toInt_le.1 c1.1
      have q2 := Int32.le_iff_toInt_le.1 c1.2
      have q3 := Int32.le_iff_toInt_le.1 c2.1.1
      have q4 := Int32.le_iff_toInt_le.1 c2.1.2
      have z1 : (1 : Int32).toInt = 1 := rfl
      have z24 : (24 : Int32).toInt = 24 := rfl
      have z6 : (60000 : Int32).toInt = 60000 := rfl
      have z7 : (-60000 : Int32).toInt = -60000 := by decide
      obtain ⟨kp, a1, a2⟩ := pu_kp37 (x1 := x1) (x2 := x2) (x3 := x3) (u := 0) (v := I 1) (s := I 2) (n := I 3) (g := I 4) (m := I 5) (now := l9 0) (kb := l9 3) (bk := l9 2) (to := A 7) (ra := A 6) (lo := A 4) (hi := A 5) (c := A 0) (d := A 1) (am := A 3) (lev := A 2) 12 400 (by omega) 0 (l9 1) (by omega) (by omega) (fun k hk => absurd hk (by omega))
      obtain ⟨kb, b1, b2⟩ := pu_kp67 (x1 := x1) (x2 := x2) (x3 := x3) (u := 0) (v := I 1) (s := I 2) (n := I 3) (g := I 4) (m := I 5) (now := l9 0) (kp := kp) (bk := l9 2) (to := A 7) (ra := A 6) (lo := A 4) (hi := A 5) (c := A 0) (d := A 1) (am := A 3) (lev := A 2) 10 400 (by omega) 0 (l9 3) (by omega) (by omega) (fun k hk => absurd hk (by omega))
      have hN : pu_Rnow (J 0) (J 1) (J 2) (L 2) (A 8) kp := pu_rnc h5 a2
      obtain ⟨S', h', w', F', q', c4, d4', lo4, hi4, ra4, to4, ru4, hb4, wb4, now4, bk4, y1, y2, y3⟩ := pu_col (v := I 1) (s := I 2) (n := I 3) (g := I 4) (m := I 5) (c := A 0) (d := A 1) (lev := A 2) (am := A 3) (X := x1) (x1 := x2) (x2 := x3) (by omega) (by omega) d1.1 d1.2 w4 w5 w6 d2 t5 t6 d3 (by omega) (by omega) (by omega) (by omega) hN m5 (by omega) (lv := 18000) (by decide) (by decide) d5 (lo' := A 4) (hi' := A 5) (fun k _ => rfl) (fun k _ => rfl) (l9 0) (L 3) (L 4) (l9 2) (A 9) (A 10) (A 11) (A 12) (A 13) (A 14) (A 15)
      have un : ∀ (f : Nat → Int32) (x : Int32) (k : Nat), k ≠ 0 → upd f (0 : Int32).toNatClampNeg x k = f k := fun f x k hk => if_neg hk
      obtain ⟨B, v3', s3, h3', w3', n3, c3, d3', F3, g3, q3', lo3, hi3, ra3, to3, ru3, hb3, wb3, now9, lo9, hi9, bk9, e1, e2, e3, e4, e5⟩ := pu_pll (v := I 1) (s := I 2) (n := I 3) (g := I 4) (m := I 5) (c := A 0) (d := A 1) (lev := A 2) (am := A 3) (X := x1) (x1 := x2) (x2 := x3) (by omega) (by omega) d1.1 d1.2 w4 w5 w6 d2 t5 t6 d3 (by omega) (by omega) (by omega) (by omega) hN m5 (by omega) 0 kb 8 400 399 (by omega) (by omega) 18000 S' 18500 (I 1) (I 2) h' w' (I 3) c4 d4' F' (I 4) q' lo4 hi4 ra4 to4 ru4 hb4 wb4 now4 (upd (A 4) (0 : Int32).toNatClampNeg 18000) (upd (A 5) (0 : Int32).toNatClampNeg (18000 + 500)) bk4 (by decide) (by decide) (by decide) y3 (fun k hk => un _ _ _ hk) (fun k hk => un _ _ _ hk)
      obtain ⟨f2, g1, g2⟩ := pu_kp243 (u := 0) (j := (if A 7 (0 : Int32).toNatClampNeg = 0 then (5000 : Int32) else A 6 (0 : Int32).toNatClampNeg)) (b := B) (kp := kp) (kb := kb) (bk := bk9) (to := A 7) (ra := A 6) (lo := A 4) (hi := A 5) (lo2 := lo9) (hi2 := hi9) 12 400 (by omega) 0 now9 (by omega) (by omega) (fun k hk => absurd hk (by omega))
      obtain ⟨f3, k1, k2⟩ := pu_kp273 (u := 0) (j := (if A 7 (0 : Int32).toNatClampNeg = 0 then (5000 : Int32) else A 6 (0 : Int32).toNatClampNeg)) (b := B) (kp := kp) (kb := kb) (now := f2) (to := A 7) (ra := A 6) (lo := A 4) (hi := A 5) (lo2 := lo9) (hi2 := hi9) 10 400 (by omega) 0 bk9 (by omega) (by omega) (fun k hk => absurd hk (by omega))
      have R13 : (gx_b1 (if (A 7 (0 : Int32).toNatClampNeg) = 0 then some (5000 : Int32) else some (A 6 (0 : Int32).toNatClampNeg)) fun j13_0 => fn_Model_plan_L163 x1 x2 x3 (A 7) (A 6) (A 4) (A 5) 0 kp kb j13_0 (I 1) (I 2) (I 3) (I 4) (I 5) (A 0) (A 1) (A 3) (A 2) 400 (-1 : Int32) (0 : Int64) (18000 : Int32) (l9 0) (A 4) (A 5) (l9 2)) = fn_Model_plan_L163 x1 x2 x3 (A 7) (A 6) (A 4) (A 5) 0 kp kb (if A 7 (0 : Int32).toNatClampNeg = 0 then (5000 : Int32) else A 6 (0 : Int32).toNatClampNeg) (I 1) (I 2) (I 3) (I 4) (I 5) (A 0) (A 1) (A 3) (A 2) (399 + 1) (-1 : Int32) (0 : Int64) (18000 : Int32) (l9 0) (A 4) (A 5) (l9 2) := by
        by_cases e : A 7 (0 : Int32).toNatClampNeg = 0
        · rw [if_pos e, if_pos e, pu_b1]
        · rw [if_neg e, if_neg e, pu_b1]
      have R163 : fn_Model_plan_L163 x1 x2 x3 (A 7) (A 6) (A 4) (A 5) 0 kp kb (if A 7 (0 : Int32).toNatClampNeg = 0 then (5000 : Int32) else A 6 (0 : Int32).toNatClampNeg) (I 1) (I 2) (I 3) (I 4) (I 5) (A 0) (A 1) (A 3) (A 2) (399 + 1) (-1 : Int32) (0 : Int64) (18000 : Int32) (l9 0) (A 4) (A 5) (l9 2) = fn_Model_plan_L163 x1 x2 x3 (A 7) (A 6) (A 4) (A 5) 0 kp kb (if A 7 (0 : Int32).toNatClampNeg = 0 then (5000 : Int32) else A 6 (0 : Int32).toNatClampNeg) (I 1) (I 2) (I 3) (I 4) (I 5) (A 0) (A 1) (A 3) (A 2) 399 18000 S' 18500 now4 (upd (A 4) (0 : Int32).toNatClampNeg 18000) (upd (A 5) (0 : Int32).toNatClampNeg (18000 + 500)) bk4 := by
        rw [fn_Model_plan_L163, if_neg (by decide), y2, pu_b5, if_pos rfl, pu_b1, if_neg pu_n0, if_neg pu_n0, pu_b1, pu_b1]
        rfl
      have ET : upd (upd (A 7) (0 : Int32).toNatClampNeg (vp_nar .boolean (1 : Int32))) (0 : Int32).toNatClampNeg (vp_nar .boolean (A 7 (0 : Int32).toNatClampNeg)) = A 7 := by
        funext k
        by_cases e : k = 0
        · rw [e]
          exact (if_pos rfl).trans (pu_nb (d3 0 (by decide)))
        · exact (un _ _ _ e).trans (un _ _ _ e)
      have ER : upd (upd (A 6) (0 : Int32).toNatClampNeg (if A 7 (0 : Int32).toNatClampNeg = 0 then (5000 : Int32) else A 6 (0 : Int32).toNatClampNeg)) (0 : Int32).toNatClampNeg (A 6 (0 : Int32).toNatClampNeg) = A 6 := by
        funext k
        by_cases e : k = 0
        · rw [e]
          exact if_pos rfl
        · exact (un _ _ _ e).trans (un _ _ _ e)
      have EL : upd lo9 (0 : Int32).toNatClampNeg (A 4 (0 : Int32).toNatClampNeg) = A 4 := by
        funext k
        by_cases e : k = 0
        · rw [e]
          exact if_pos rfl
        · exact (un _ _ _ e).trans (e4 k e)
      have EH : upd hi9 (0 : Int32).toNatClampNeg (A 5 (0 : Int32).toNatClampNeg) = A 5 := by
        funext k
        by_cases e : k = 0
        · rw [e]
          exact if_pos rfl
        · exact (un _ _ _ e).trans (e5 k e)
      rw [ET, ER, EL, EH] at k1
      have BK : pu_Rbook (L 0) (L 1) f3 := by
        intro k hk
        rw [k2 k (by omega), k2 (5 + k) (by omega), b2 k (by omega), b2 (5 + k) (by omega)]
        exact h6 k hk
      have NW : pu_Rnow (J 0) (J 1) (J 2) (L 2) (A 8) f2 := pu_rnc hN g2
      refine Or.inl ⟨v3', s3, h3', w3', n3, c3, d3', F3, g3, q3', lo3, hi3, ra3, to3, ru3, hb3, wb3, vp_updL o (0 : Int32).toNatClampNeg B.toInt64, B, 0, kp, kb, A 7, A 6, f2, A 4, A 5, f3, ?_, ?_, rfl, (lg_cmp_eq _ _).2 pk_uLs, ⟨⟨v1, v2, v3, v4⟩, ⟨w1, w2, w3, w4, w5, w6⟩, ⟨t1, t2, t3, t4, t5, t6⟩, ⟨rfl, rfl, rfl, rfl, m5⟩, NW, BK, h7, h8, h9, h10, h11, h12, h13, h14, h15, h16, h17⟩, ⟨d1, d2, d3, d4, e3⟩⟩
      · unfold fn_Law_plan fn_Room_plan
        simp only [pu_rin, if_pos c1, if_pos c2.1, if_pos c2.2, y1, pu_b18, e1] <;> rfl
      · unfold fn_Model_plan
        simp only [pu_mw, if_pos c1, pu_b1, if_neg pu_n0, pu_outs, if_pos c2, pu_goes, pu_b2, v1, v2, w1, w2, w3, t1, t2, t3, t4, m1, m2, m3, m4]
        rw [a1, b1, R13, R163, e2, g1, k1]
    · have n2 : fn_Room_plan (I 1) (I 2) (J 0) (J 1) (I 3) (A 0) (A 9) (A 1) (A 10) (L 2) (L 5) (I 4) (J 2) (A 4) (A 11) (A 5) (A 12) (A 6) (A 13) (A 7) (A 14) (A 8) (A 15) (L 3) (L 4) (I 5) (A 3) (A 2) x1 x2 x3 = some (.inl 3) := by
        by_cases c4 : -60000 ≤ x2 ∧ x2 ≤ 60000
        · have c5 : ¬ (0 ≤ x3 ∧ x3 ≤ 60000) := fun hh => c2 ⟨c4, hh⟩
          simp only [fn_Room_plan, pu_rin, if_pos c1, if_pos c4, if_neg c5] <;> rfl
        · simp only [fn_Room_plan, pu_rin, if_pos c1, if_neg c4] <;> rfl
      refine Or.inr ⟨0, 1, l9 1, l9 3, a 4, a 7, l9 0, a 5, a 6, l9 2, n2, ?_, rfl, ⟨⟨v1, v2, v3, v4⟩, ⟨w1, w2, w3, w4, w5, w6⟩, ⟨t1, t2, t3, t4, t5, t6⟩, ⟨m1, m2, m3, m4, m5⟩, h5, h6, h7, h8, h9, h10, h11, h12, h13, h14, h15, h16, h17⟩, ⟨d1, d2, d3, d4, d5⟩⟩
      simp only [fn_Model_plan, pu_mw, if_pos c1, pu_b1, if_neg pu_n0, pu_outs, if_neg c2, pu_goes, pu_b2, ↓reduceIte] <;> rfl
  · refine Or.inr ⟨0, 1, l9 1, l9 3, a 4, a 7, l9 0, a 5, a 6, l9 2, ?_, ?_, rfl, ⟨⟨v1, v2, v3, v4⟩, ⟨w1, w2, w3, w4, w5, w6⟩, ⟨t1, t2, t3, t4, t5, t6⟩, ⟨m1, m2, m3, m4, m5⟩, h5, h6, h7, h8, h9, h10, h11, h12, h13, h14, h15, h16, h17⟩, ⟨d1, d2, d3, d4, d5⟩⟩
    · simp only [fn_Room_plan, pu_rin, if_neg c1] <;> rfl
    · simp only [fn_Model_plan, pu_mw, if_neg c1, pu_b1, pu_goes, pu_b2, ↓reduceIte] <;> rfl
