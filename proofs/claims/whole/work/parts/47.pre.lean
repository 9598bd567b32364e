theorem tt_18 : Cond.classLink nR_Law 8 nR_Room ∈ TT := tt_t (i := 18) (by decide +kernel) (by decide +kernel)
theorem tt_19 : Cond.instantiable nR_Room 7 ∈ TT := tt_t (i := 19) (by decide +kernel) (by decide +kernel)
theorem tt_20 : Cond.methodLink nR_Law 82 nY_Room_init ∈ TT := tt_t (i := 20) (by decide +kernel) (by decide +kernel)
theorem tt_21 : Cond.instanceMethod nY_Room_init ∈ TT := tt_t (i := 21) (by decide +kernel) (by decide +kernel)
theorem tt_714 : Cond.classLink nR_Law 83 nR_Model ∈ TT := tt_t (i := 714) (by decide +kernel) (by decide +kernel)
theorem tt_715 : Cond.instantiable nR_Model 32 ∈ TT := tt_t (i := 715) (by decide +kernel) (by decide +kernel)
theorem tt_716 : Cond.methodLink nR_Law 85 nY_Model_init ∈ TT := tt_t (i := 716) (by decide +kernel) (by decide +kernel)
theorem tt_717 : Cond.instanceMethod nY_Model_init ∈ TT := tt_t (i := 717) (by decide +kernel) (by decide +kernel)
theorem k_D {s : State} {ar : Array Value} (hts : ∀ w ∈ TT, w.before ar s = true) : ∃ D : va_G, ∀ (k : Nat) (q : vw_C), vwCl[k]? = some q → u_Kn s q.1 q.2.1 q.2.2 (D.1 k) (D.2 k) := by
  obtain ⟨c0, i0, h0⟩ := u_known (C := nR_Gauge) (T := nT_Gauge) (N := 5) (n := 5) hts ni_Gauge (hts (.instantiable nR_Gauge 5) tt_198)
  obtain ⟨c1, i1, h1⟩ := u_known (C := nR_Goods) (T := nT_Goods) (N := 3) (n := 3) hts ni_Goods (hts (.instantiable nR_Goods 3) tt_131)
  obtain ⟨c2, i2, h2⟩ := u_known (C := nR_House) (T := nT_House) (N := 4) (n := 4) hts ni_House (hts (.instantiable nR_House 4) tt_45)
  obtain ⟨c3, i3, h3⟩ := u_known (C := nR_Interior) (T := nT_Interior) (N := 6) (n := 6) hts ni_Interior (hts (.instantiable nR_Interior 6) tt_51)
  obtain ⟨c4, i4, h4⟩ := u_known (C := nR_Machines) (T := nT_Machines) (N := 5) (n := 5) hts ni_Machines (hts (.instantiable nR_Machines 5) tt_107)
  obtain ⟨c5, i5, h5⟩ := u_known (C := nR_Rules) (T := nT_Rules) (N := 6) (n := 6) hts ni_Rules (hts (.instantiable nR_Rules 6) tt_168)
  obtain ⟨c6, i6, h6⟩ := u_known (C := nR_Steps) (T := nT_Steps) (N := 3) (n := 3) hts ni_Steps (hts (.instantiable nR_Steps 3) tt_27)
  obtain ⟨c7, i7, h7⟩ := u_known (C := nR_Walls) (T := nT_Walls) (N := 4) (n := 4) hts ni_Walls (hts (.instantiable nR_Walls 4) tt_87)
  obtain ⟨c8, i8, h8⟩ := u_known (C := nR_Room) (T := nT_Room) (N := 7) (n := 7) hts ni_Room (hts (.instantiable nR_Room 7) tt_19)
  obtain ⟨c9, i9, h9⟩ := u_known (C := nR_Model) (T := nT_Model) (N := 32) (n := 32) hts ni_Model (hts (.instantiable nR_Model 32) tt_715)
  refine ⟨(fun k => match k with | 0 => c0 | 1 => c1 | 2 => c2 | 3 => c3 | 4 => c4 | 5 => c5 | 6 => c6 | 7 => c7 | 8 => c8 | _ => c9, fun k => match k with | 0 => i0 | 1 => i1 | 2 => i2 | 3 => i3 | 4 => i4 | 5 => i5 | 6 => i6 | 7 => i7 | 8 => i8 | _ => i9), ?_⟩
  intro k q hq
  match k, hq with
  | 0, hq => cases hq; exact h0
  | 1, hq => cases hq; exact h1
  | 2, hq => cases hq; exact h2
  | 3, hq => cases hq; exact h3
  | 4, hq => cases hq; exact h4
  | 5, hq => cases hq; exact h5
  | 6, hq => cases hq; exact h6
  | 7, hq => cases hq; exact h7
  | 8, hq => cases hq; exact h8
  | 9, hq => cases hq; exact h9
  | k + 10, hq => simp [vwCl] at hq
theorem k_CA {s : State} {ar : Array Value} (hts : ∀ w ∈ TT, w.before ar s = true) : ∃ ca : Nat → ClassId, ∀ (k : Nat) (q : ClassId × FieldType), (tyG ca)[k]? = some q → ArrOfT s q.1 q.2 ∧ va_RA s q.1 q.2 := by
  obtain ⟨c0, k0, p0, a0, b0, d0⟩ := Cond.arrayClass_spec (hts (.arrayClass .int) tt_43)
  obtain ⟨c1, k1, p1, a1, b1, d1⟩ := Cond.arrayClass_spec (hts (.arrayClass .long) tt_85)
  obtain ⟨c2, k2, p2, a2, b2, d2⟩ := Cond.arrayClass_spec (hts (.arrayClass .boolean) tt_129)
  obtain ⟨p3, c3, k3, f3, -, b3, d3, a3⟩ := Cond.arrayOver_spec (hts (.arrayOver (.object nR_Steps)) tt_166)
  obtain ⟨p4, c4, k4, -, -, b4, d4, a4⟩ := Jvm.Stand.arrayOver_specB (hts (.arrayOver (.array .int)) tt_174)
  refine ⟨fun k => match k with | 0 => c0 | 1 => c1 | 2 => c2 | 3 => c3 | _ => c4, ?_⟩
  intro k q hq
  match k, hq with
  | 0, hq => cases hq; exact ⟨fun N z => ⟨(fun k h => by cases h), k0, b0, p0, d0⟩, a0⟩
  | 1, hq => cases hq; exact ⟨fun N z => ⟨(fun k h => by cases h), k1, b1, p1, d1⟩, a1⟩
  | 2, hq => cases hq; exact ⟨fun N z => ⟨(fun k h => by cases h), k2, b2, p2, d2⟩, a2⟩
  | 3, hq => cases hq; exact ⟨fun N z => ⟨(fun k h => by cases h), k3, b3, p3, d3⟩, k3, p3, b3, d3, f3, a3⟩
  | 4, hq => cases hq; exact ⟨fun N z => ⟨(fun k h => by cases h), k4, b4, p4, d4⟩, a4⟩
  | k + 5, hq => simp [tyG] at hq
theorem k_EV {p : Program} {s : State} {m : MethodId} {meth : Method} {c : Code} {b Ls : Nat} {xs : Nat → Int32} (C0 : lw_At p s m meth c b Ls xs) : xt_ev s s.heap := by
  obtain ⟨hx, hb, hr, hml, hown, hts0, hX, hbl, hlocks, hgv⟩ := C0
  have hs := flat_of_before _ hgv
  have w1 : (Cond.isRef (.static "java/lang/Throwable" "UNASSIGNED_STACK" "[Ljava/lang/StackTraceElement;")).before #[Value.ref b] s = true := hs _ (by decide +kernel)
  have w2 : (Cond.isRef (.static "java/lang/Throwable" "SUPPRESSED_SENTINEL" "Ljava/util/List;")).before #[Value.ref b] s = true := hs _ (by decide +kernel)
  have w3 : (Cond.laysStatic "java/lang/Throwable" "UNASSIGNED_STACK" "[Ljava/lang/StackTraceElement;").before #[Value.ref b] s = true := hts0 _ (by decide +kernel)
  have w4 : (Cond.laysStatic "java/lang/Throwable" "SUPPRESSED_SENTINEL" "Ljava/util/List;").before #[Value.ref b] s = true := hts0 _ (by decide +kernel)
  have w5 : (Cond.initialized "java/lang/Throwable").before #[Value.ref b] s = true := hts0 _ (by decide +kernel)
  have n1 : (Cond.not (.castable "java/lang/IllegalArgumentException" "java/lang/IllegalStateException")).before #[Value.ref b] s = true := hs _ (by decide +kernel)
  have n2 : (Cond.not (.castable "java/lang/IllegalArgumentException" "java/lang/IndexOutOfBoundsException")).before #[Value.ref b] s = true := hs _ (by decide +kernel)
  have n3 : (Cond.not (.castable "java/lang/IllegalStateException" "java/lang/IndexOutOfBoundsException")).before #[Value.ref b] s = true := hs _ (by decide +kernel)
  refine ⟨s, Vm.Alike.refl s.vm, fun q _ => rfl, ?_, w5, va_Nc.of n1, va_Nc.of n2, va_Nc.of n3⟩
  intro w hw
  rcases List.mem_cons.mp hw with rfl | hw
  · exact w1
  rcases List.mem_cons.mp hw with rfl | hw
  · exact w2
  rcases List.mem_cons.mp hw with rfl | hw
  · exact w3
  rcases List.mem_cons.mp hw with rfl | hw
  · exact w4
  · exact absurd hw List.not_mem_nil
def k_nth : List Nat → Nat → Nat
  | [], _ => 0
  | x :: _, 0 => x
  | _ :: xs, n + 1 => k_nth xs n
def s0I : Nat → Int32 := fun k => match k with | 1 => 100 | 2 => 100 | 6 => 100 | 7 => 100 | _ => 0
def s0J : Nat → Int64 := fun k => match k with | 0 => (100 : Int32).toInt64 * 20000 | 1 => (100 : Int32).toInt64 * 10000 | 3 => (100 : Int32).toInt64 * 20000 | 4 => (100 : Int32).toInt64 * 10000 | _ => 0
def s0A : Nat → Nat → Int32 := fun _ _ => 0
def s0L : Nat → Nat → Int64 := fun _ _ => 0
def s0i : Nat → Int32 := fun k => match k with | 1 => 100 | 2 => 100 | _ => 0
def s0v : Nat → Int32 := fun j => if j < 300 then -200000 else 0
def s0n : Nat → Int64 := vp_updL (vp_updL (fun _ => 0) (0 : Int32).toNatClampNeg 2000000) (1 : Int32).toNatClampNeg 1000000
def s0a : Nat → Nat → Int32 := fun k => match k with | 17 => s0v | _ => fun _ => 0
def s0l : Nat → Nat → Int64 := fun k => match k with | 0 => s0n | _ => fun _ => 0
theorem s0n_ne {k : Nat} (h0 : k ≠ 0) (h1 : k ≠ 1) : s0n k = 0 := (if_neg h1).trans (if_neg h0)
theorem s0_rel : pu_RelB s0I s0J s0A s0L s0i s0a s0l := by
  have z0 : (0 : Int32).toInt = 0 := rfl
  have z1 : (100 : Int32).toInt = 100 := rfl
  have rk : ∀ r : Nat, pu_Rrk r (0 : Int32) (fun _ => 0) (fun _ => 0) (fun _ => 0) (fun _ => 0) (fun _ => 0) := by
    intro r
    exact ⟨rfl, by decide, by decide, fun j _ => ⟨rfl, rfl⟩, fun j hj => absurd hj (by omega)⟩
  refine ⟨⟨⟨rfl, rfl, by decide, by decide⟩, ⟨rfl, rfl, rfl, by decide, by decide, fun k hk => absurd hk (by show ¬ (k : Int) < (0 : Int32).toInt; omega)⟩, ⟨rfl, rfl, rfl, rfl, by decide, by decide⟩, ⟨rfl, rfl, rfl, rfl, fun k _ => ⟨Or.inl rfl, fun _ => rfl, fun hh => absurd rfl hh, by show 0 ≤ (0 : Int32).toInt; omega, by show (0 : Int32).toInt ≤ 100000; omega⟩⟩, ⟨by decide, by decide, rfl, fun k hk => s0n_ne (by omega) (by omega), fun k hk => s0n_ne (by omega) (by omega)⟩, fun k _ => ⟨rfl, rfl⟩, rk 0, rk 1, rk 2, rk 3, rfl, ⟨rfl, rfl, rfl, rfl, rfl, by decide, by decide, fun r _ => ⟨by show 0 ≤ (0 : Int32).toInt; omega, by show (0 : Int32).toInt ≤ (0 : Int32).toInt; omega⟩, fun r hr => absurd hr (by show ¬ (r : Int) < (0 : Int32).toInt; omega)⟩, fun j _ => rfl, fun j _ => rfl, fun j _ => rfl, fun j _ => rfl, ⟨rfl, rfl, rfl, by decide, by decide, fun j hj => (if_pos hj : s0v j = -200000), fun j _ hh => absurd rfl hh, fun j _ hh => absurd rfl hh, rfl⟩⟩, ⟨⟨by decide, by decide⟩, fun k hk => absurd hk (by show ¬ (k : Int) < (0 : Int32).toInt; omega), fun k _ => Or.inl rfl, by decide, fun k _ _ => rfl⟩⟩
