abbrev tyG (ca : Nat → ClassId) : List (ClassId × FieldType) := [(ca 0, .int), (ca 1, .long), (ca 2, .boolean), (ca 3, .object "RoomClimate$Steps"), (ca 4, .array .int)]
abbrev oc_Gauge (q : Nat) (f0 : Nat) (f1 : Nat) (f2 : Nat) (f3 : Nat) (f4 : Int32) : Nat × va_E := (q, .inr (0, [.ref f0, .ref f1, .ref f2, .ref f3, .int f4]))
abbrev oc_Goods (q : Nat) (f0 : Nat) (f1 : Int32) (f2 : Int64) : Nat × va_E := (q, .inr (1, [.ref f0, .int f1, .long f2]))
abbrev oc_House (q : Nat) (f0 : Nat) (f1 : Nat) (f2 : Nat) (f3 : Nat) : Nat × va_E := (q, .inr (2, [.ref f0, .ref f1, .ref f2, .ref f3]))
abbrev oc_Interior (q : Nat) (f0 : Nat) (f1 : Nat) (f2 : Int32) (f3 : Int32) (f4 : Int64) (f5 : Int64) : Nat × va_E := (q, .inr (3, [.ref f0, .ref f1, .int f2, .int f3, .long f4, .long f5]))
abbrev oc_Machines (q : Nat) (f0 : Nat) (f1 : Nat) (f2 : Nat) (f3 : Nat) (f4 : Nat) : Nat × va_E := (q, .inr (4, [.ref f0, .ref f1, .ref f2, .ref f3, .ref f4]))
abbrev oc_Rules (q : Nat) (f0 : Nat) (f1 : Nat) (f2 : Nat) (f3 : Nat) (f4 : Nat) (f5 : Int32) : Nat × va_E := (q, .inr (5, [.ref f0, .ref f1, .ref f2, .ref f3, .ref f4, .int f5]))
abbrev oc_Steps (q : Nat) (f0 : Nat) (f1 : Nat) (f2 : Int32) : Nat × va_E := (q, .inr (6, [.ref f0, .ref f1, .int f2]))
abbrev oc_Walls (q : Nat) (f0 : Nat) (f1 : Nat) (f2 : Nat) (f3 : Int32) : Nat × va_E := (q, .inr (7, [.ref f0, .ref f1, .ref f2, .int f3]))
abbrev oc_Room (q : Nat) (f0 : Nat) (f1 : Nat) (f2 : Nat) (f3 : Nat) (f4 : Nat) (f5 : Nat) (f6 : Int32) : Nat × va_E := (q, .inr (8, [.ref f0, .ref f1, .ref f2, .ref f3, .ref f4, .ref f5, .int f6]))
abbrev oc_Model (q : Nat) (f0 : Int32) (f1 : Int32) (f2 : Int32) (f3 : Nat) (f4 : Nat) (f5 : Nat) (f6 : Nat) (f7 : Int32) (f8 : Nat) (f9 : Nat) (f10 : Int32) (f11 : Int32) (f12 : Nat) (f13 : Nat) (f14 : Nat) (f15 : Nat) (f16 : Nat) (f17 : Nat) (f18 : Int32) (f19 : Nat) (f20 : Nat) (f21 : Nat) (f22 : Nat) (f23 : Int32) (f24 : Nat) (f25 : Nat) (f26 : Nat) (f27 : Nat) (f28 : Nat) (f29 : Nat) (f30 : Nat) (f31 : Nat) : Nat × va_E := (q, .inr (9, [.int f0, .int f1, .int f2, .ref f3, .ref f4, .ref f5, .ref f6, .int f7, .ref f8, .ref f9, .int f10, .int f11, .ref f12, .ref f13, .ref f14, .ref f15, .ref f16, .ref f17, .int f18, .ref f19, .ref f20, .ref f21, .ref f22, .int f23, .ref f24, .ref f25, .ref f26, .ref f27, .ref f28, .ref f29, .ref f30, .ref f31]))
abbrev aI (q : Nat) (ca : Nat → ClassId) (n : Nat) (f : Nat → Int32) : Nat × va_E := (q, .inl (ca 0, n, .inl f))
abbrev aJ (q : Nat) (ca : Nat → ClassId) (n : Nat) (f : Nat → Int64) : Nat × va_E := (q, .inl (ca 1, n, .inr (.inl f)))
abbrev aZ (q : Nat) (ca : Nat → ClassId) (n : Nat) (f : Nat → Int32) : Nat × va_E := (q, .inl (ca 2, n, .inl f))
abbrev aS (q : Nat) (ca : Nat → ClassId) (f : Nat → Option Nat) : Nat × va_E := (q, .inl (ca 3, 4, .inr (.inr (.inr (.inr f)))))
abbrev aG (q : Nat) (ca : Nat → ClassId) (f : Nat → Option Nat) : Nat × va_E := (q, .inl (ca 4, 4, .inr (.inr (.inr (.inr f)))))
def rq4 (a b c d : Nat) : Nat → Option Nat := fun j => match j with
  | 0 => some a
  | 1 => some b
  | 2 => some c
  | 3 => some d
  | _ => none
/-! Own kit: option combinators, and the start / call rows in a short form. -/
def gx_ix (i : Int32) (n : Nat) : Bool := decide (¬ (i < 0 ∨ n ≤ i.toNatClampNeg))
theorem q_ix {α : Type} {i : Int32} {n : Nat} {a : Option α} {R : α} (h : (if gx_ix i n then a else none) = some R) : vp_in i n ∧ a = some R := by
  by_cases hc : gx_ix i n = true
  · rw [if_pos hc] at h
    have h9 : ¬ (i < 0 ∨ n ≤ i.toNatClampNeg) := of_decide_eq_true hc
    exact ⟨h9, h⟩
  · rw [if_neg hc] at h; exact nomatch h
def gx_bz (v : Int32) : Bool := decide (v = 0 ∨ v = 1)
theorem q_bzn {v : Int32} (h : v = 0 ∨ v = 1) : narrow .boolean (.int v) = .int v := by
  rcases h with rfl | rfl <;> rfl
theorem q_bz {α : Type} {v : Int32} {a : Option α} {R : α} (h : (if gx_bz v then a else none) = some R) : narrow .boolean (.int v) = .int v ∧ a = some R := by
  by_cases hc : gx_bz v = true
  · rw [if_pos hc] at h; exact ⟨q_bzn (of_decide_eq_true hc), h⟩
  · rw [if_neg hc] at h; exact nomatch h
theorem q_nz {α ι : Type} [OfNat ι 0] {y : ι} [Decidable (y = 0)] {a : Option α} {R : α} (h : (if y = 0 then none else a) = some R) : ¬ y = 0 ∧ a = some R := by
  by_cases hc : y = 0
  · rw [if_pos hc] at h; exact nomatch h
  · rw [if_neg hc] at h; exact ⟨hc, h⟩
theorem q_p {α : Type} {c : Prop} [Decidable c] {a b R : α} (hc : c) (h : (if c then a else b) = R) : a = R := by rwa [if_pos hc] at h
theorem q_n {α : Type} {c : Prop} [Decidable c] {a b R : α} (hc : ¬ c) (h : (if c then a else b) = R) : b = R := by rwa [if_neg hc] at h
def gx_lift {α : Type} (o : Option α) : Option (Nat ⊕ α) := o.map Sum.inr
theorem q_lr {α : Type} {o : Option α} {R : α} (h : gx_lift o = some (.inr R)) : o = some R := by
  cases o with
  | none => exact nomatch h
  | some a => exact congrArg some (Sum.inr.inj (Option.some.inj h))
theorem q_lx {α : Type} {o : Option α} {e : Nat} (h : gx_lift o = some (.inl e)) : False := by
  cases o with
  | none => exact nomatch h
  | some a => exact nomatch (Option.some.inj h)
def gx_xb {α : Type} (o : Option (Nat ⊕ Unit)) (k : Option (Nat ⊕ α)) : Option (Nat ⊕ α) := match o with
  | none => none
  | some (.inl e) => some (.inl e)
  | some (.inr _) => k
theorem q_xr {α : Type} {o : Option (Nat ⊕ Unit)} {k : Option (Nat ⊕ α)} {R : α} (h : gx_xb o k = some (.inr R)) : o = some (.inr ()) ∧ k = some (.inr R) := by
  match o, h with
  | none, h => exact nomatch h
  | some (.inl e), h => exact nomatch (Option.some.inj h)
  | some (.inr ()), h => exact ⟨rfl, h⟩
theorem q_xx {α : Type} {o : Option (Nat ⊕ Unit)} {k : Option (Nat ⊕ α)} {e : Nat} (h : gx_xb o k = some (.inl e)) : o = some (.inl e) ∨ (o = some (.inr ()) ∧ k = some (.inl e)) := by
  match o, h with
  | none, h => exact nomatch h
  | some (.inl e'), h => exact Or.inl (congrArg some (congrArg Sum.inl (Sum.inl.inj (Option.some.inj h))))
  | some (.inr ()), h => exact Or.inr ⟨rfl, h⟩
def gx_b1 {α β1 : Type} (o : Option (β1)) (k : β1 → Option α) : Option α := o.bind (fun r => k r)
theorem q_b1 {α β1 : Type} {o : Option (β1)} {k : β1 → Option α} {R : α} (h : gx_b1 o k = some R) : ∃ b1, o = some (b1) ∧ k b1 = some R := by
  cases o with
  | none => exact nomatch h
  | some r => exact ⟨r, rfl, h⟩
def gx_b2 {α β1 β2 : Type} (o : Option (β1 × β2)) (k : β1 → β2 → Option α) : Option α := o.bind (fun r => k r.1 r.2)
theorem q_b2 {α β1 β2 : Type} {o : Option (β1 × β2)} {k : β1 → β2 → Option α} {R : α} (h : gx_b2 o k = some R) : ∃ b1 b2, o = some (b1, b2) ∧ k b1 b2 = some R := by
  cases o with
  | none => exact nomatch h
  | some r => exact ⟨r.1, r.2, rfl, h⟩
def gx_b3 {α β1 β2 β3 : Type} (o : Option (β1 × β2 × β3)) (k : β1 → β2 → β3 → Option α) : Option α := o.bind (fun r => k r.1 r.2.1 r.2.2)
theorem q_b3 {α β1 β2 β3 : Type} {o : Option (β1 × β2 × β3)} {k : β1 → β2 → β3 → Option α} {R : α} (h : gx_b3 o k = some R) : ∃ b1 b2 b3, o = some (b1, b2, b3) ∧ k b1 b2 b3 = some R := by
  cases o with
  | none => exact nomatch h
  | some r => exact ⟨r.1, r.2.1, r.2.2, rfl, h⟩
def gx_b4 {α β1 β2 β3 β4 : Type} (o : Option (β1 × β2 × β3 × β4)) (k : β1 → β2 → β3 → β4 → Option α) : Option α := o.bind (fun r => k r.1 r.2.1 r.2.2.1 r.2.2.2)
theorem q_b4 {α β1 β2 β3 β4 : Type} {o : Option (β1 × β2 × β3 × β4)} {k : β1 → β2 → β3 → β4 → Option α} {R : α} (h : gx_b4 o k = some R) : ∃ b1 b2 b3 b4, o = some (b1, b2, b3, b4) ∧ k b1 b2 b3 b4 = some R := by
  cases o with
  | none => exact nomatch h
  | some r => exact ⟨r.1, r.2.1, r.2.2.1, r.2.2.2, rfl, h⟩
def gx_b5 {α β1 β2 β3 β4 β5 : Type} (o : Option (β1 × β2 × β3 × β4 × β5)) (k : β1 → β2 → β3 → β4 → β5 → Option α) : Option α := o.bind (fun r => k r.1 r.2.1 r.2.2.1 r.2.2.2.1 r.2.2.2.2)
theorem q_b5 {α β1 β2 β3 β4 β5 : Type} {o : Option (β1 × β2 × β3 × β4 × β5)} {k : β1 → β2 → β3 → β4 → β5 → Option α} {R : α} (h : gx_b5 o k = some R) : ∃ b1 b2 b3 b4 b5, o = some (b1, b2, b3, b4, b5) ∧ k b1 b2 b3 b4 b5 = some R := by
  cases o with
  | none => exact nomatch h
  | some r => exact ⟨r.1, r.2.1, r.2.2.1, r.2.2.2.1, r.2.2.2.2, rfl, h⟩
def gx_b6 {α β1 β2 β3 β4 β5 β6 : Type} (o : Option (β1 × β2 × β3 × β4 × β5 × β6)) (k : β1 → β2 → β3 → β4 → β5 → β6 → Option α) : Option α := o.bind (fun r => k r.1 r.2.1 r.2.2.1 r.2.2.2.1 r.2.2.2.2.1 r.2.2.2.2.2)
theorem q_b6 {α β1 β2 β3 β4 β5 β6 : Type} {o : Option (β1 × β2 × β3 × β4 × β5 × β6)} {k : β1 → β2 → β3 → β4 → β5 → β6 → Option α} {R : α} (h : gx_b6 o k = some R) : ∃ b1 b2 b3 b4 b5 b6, o = some (b1, b2, b3, b4, b5, b6) ∧ k b1 b2 b3 b4 b5 b6 = some R := by
  cases o with
  | none => exact nomatch h
  | some r => exact ⟨r.1, r.2.1, r.2.2.1, r.2.2.2.1, r.2.2.2.2.1, r.2.2.2.2.2, rfl, h⟩
def gx_b7 {α β1 β2 β3 β4 β5 β6 β7 : Type} (o : Option (β1 × β2 × β3 × β4 × β5 × β6 × β7)) (k : β1 → β2 → β3 → β4 → β5 → β6 → β7 → Option α) : Option α := o.bind (fun r => k r.1 r.2.1 r.2.2.1 r.2.2.2.1 r.2.2.2.2.1 r.2.2.2.2.2.1 r.2.2.2.2.2.2)
theorem q_b7 {α β1 β2 β3 β4 β5 β6 β7 : Type} {o : Option (β1 × β2 × β3 × β4 × β5 × β6 × β7)} {k : β1 → β2 → β3 → β4 → β5 → β6 → β7 → Option α} {R : α} (h : gx_b7 o k = some R) : ∃ b1 b2 b3 b4 b5 b6 b7, o = some (b1, b2, b3, b4, b5, b6, b7) ∧ k b1 b2 b3 b4 b5 b6 b7 = some R := by
  cases o with
  | none => exact nomatch h
  | some r => exact ⟨r.1, r.2.1, r.2.2.1, r.2.2.2.1, r.2.2.2.2.1, r.2.2.2.2.2.1, r.2.2.2.2.2.2, rfl, h⟩
def gx_b8 {α β1 β2 β3 β4 β5 β6 β7 β8 : Type} (o : Option (β1 × β2 × β3 × β4 × β5 × β6 × β7 × β8)) (k : β1 → β2 → β3 → β4 → β5 → β6 → β7 → β8 → Option α) : Option α := o.bind (fun r => k r.1 r.2.1 r.2.2.1 r.2.2.2.1 r.2.2.2.2.1 r.2.2.2.2.2.1 r.2.2.2.2.2.2.1 r.2.2.2.2.2.2.2)
theorem q_b8 {α β1 β2 β3 β4 β5 β6 β7 β8 : Type} {o : Option (β1 × β2 × β3 × β4 × β5 × β6 × β7 × β8)} {k : β1 → β2 → β3 → β4 → β5 → β6 → β7 → β8 → Option α} {R : α} (h : gx_b8 o k = some R) : ∃ b1 b2 b3 b4 b5 b6 b7 b8, o = some (b1, b2, b3, b4, b5, b6, b7, b8) ∧ k b1 b2 b3 b4 b5 b6 b7 b8 = some R := by
  cases o with
  | none => exact nomatch h
  | some r => exact ⟨r.1, r.2.1, r.2.2.1, r.2.2.2.1, r.2.2.2.2.1, r.2.2.2.2.2.1, r.2.2.2.2.2.2.1, r.2.2.2.2.2.2.2, rfl, h⟩
def gx_b9 {α β1 β2 β3 β4 β5 β6 β7 β8 β9 : Type} (o : Option (β1 × β2 × β3 × β4 × β5 × β6 × β7 × β8 × β9)) (k : β1 → β2 → β3 → β4 → β5 → β6 → β7 → β8 → β9 → Option α) : Option α := o.bind (fun r => k r.1 r.2.1 r.2.2.1 r.2.2.2.1 r.2.2.2.2.1 r.2.2.2.2.2.1 r.2.2.2.2.2.2.1 r.2.2.2.2.2.2.2.1 r.2.2.2.2.2.2.2.2)
theorem q_b9 {α β1 β2 β3 β4 β5 β6 β7 β8 β9 : Type} {o : Option (β1 × β2 × β3 × β4 × β5 × β6 × β7 × β8 × β9)} {k : β1 → β2 → β3 → β4 → β5 → β6 → β7 → β8 → β9 → Option α} {R : α} (h : gx_b9 o k = some R) : ∃ b1 b2 b3 b4 b5 b6 b7 b8 b9, o = some (b1, b2, b3, b4, b5, b6, b7, b8, b9) ∧ k b1 b2 b3 b4 b5 b6 b7 b8 b9 = some R := by
  cases o with
  | none => exact nomatch h
  | some r => exact ⟨r.1, r.2.1, r.2.2.1, r.2.2.2.1, r.2.2.2.2.1, r.2.2.2.2.2.1, r.2.2.2.2.2.2.1, r.2.2.2.2.2.2.2.1, r.2.2.2.2.2.2.2.2, rfl, h⟩
def gx_b10 {α β1 β2 β3 β4 β5 β6 β7 β8 β9 β10 : Type} (o : Option (β1 × β2 × β3 × β4 × β5 × β6 × β7 × β8 × β9 × β10)) (k : β1 → β2 → β3 → β4 → β5 → β6 → β7 → β8 → β9 → β10 → Option α) : Option α := o.bind (fun r => k r.1 r.2.1 r.2.2.1 r.2.2.2.1 r.2.2.2.2.1 r.2.2.2.2.2.1 r.2.2.2.2.2.2.1 r.2.2.2.2.2.2.2.1 r.2.2.2.2.2.2.2.2.1 r.2.2.2.2.2.2.2.2.2)
theorem q_b10 {α β1 β2 β3 β4 β5 β6 β7 β8 β9 β10 : Type} {o : Option (β1 × β2 × β3 × β4 × β5 × β6 × β7 × β8 × β9 × β10)} {k : β1 → β2 → β3 → β4 → β5 → β6 → β7 → β8 → β9 → β10 → Option α} {R : α} (h : gx_b10 o k = some R) : ∃ b1 b2 b3 b4 b5 b6 b7 b8 b9 b10, o = some (b1, b2, b3, b4, b5, b6, b7, b8, b9, b10) ∧ k b1 b2 b3 b4 b5 b6 b7 b8 b9 b10 = some R := by
  cases o with
  | none => exact nomatch h
  | some r => exact ⟨r.1, r.2.1, r.2.2.1, r.2.2.2.1, r.2.2.2.2.1, r.2.2.2.2.2.1, r.2.2.2.2.2.2.1, r.2.2.2.2.2.2.2.1, r.2.2.2.2.2.2.2.2.1, r.2.2.2.2.2.2.2.2.2, rfl, h⟩
def gx_b11 {α β1 β2 β3 β4 β5 β6 β7 β8 β9 β10 β11 : Type} (o : Option (β1 × β2 × β3 × β4 × β5 × β6 × β7 × β8 × β9 × β10 × β11)) (k : β1 → β2 → β3 → β4 → β5 → β6 → β7 → β8 → β9 → β10 → β11 → Option α) : Option α := o.bind (fun r => k r.1 r.2.1 r.2.2.1 r.2.2.2.1 r.2.2.2.2.1 r.2.2.2.2.2.1 r.2.2.2.2.2.2.1 r.2.2.2.2.2.2.2.1 r.2.2.2.2.2.2.2.2.1 r.2.2.2.2.2.2.2.2.2.1 r.2.2.2.2.2.2.2.2.2.2)
theorem q_b11 {α β1 β2 β3 β4 β5 β6 β7 β8 β9 β10 β11 : Type} {o : Option (β1 × β2 × β3 × β4 × β5 × β6 × β7 × β8 × β9 × β10 × β11)} {k : β1 → β2 → β3 → β4 → β5 → β6 → β7 → β8 → β9 → β10 → β11 → Option α} {R : α} (h : gx_b11 o k = some R) : ∃ b1 b2 b3 b4 b5 b6 b7 b8 b9 b10 b11, o = some (b1, b2, b3, b4, b5, b6, b7, b8, b9, b10, b11) ∧ k b1 b2 b3 b4 b5 b6 b7 b8 b9 b10 b11 = some R := by
  cases o with
  | none => exact nomatch h
  | some r => exact ⟨r.1, r.2.1, r.2.2.1, r.2.2.2.1, r.2.2.2.2.1, r.2.2.2.2.2.1, r.2.2.2.2.2.2.1, r.2.2.2.2.2.2.2.1, r.2.2.2.2.2.2.2.2.1, r.2.2.2.2.2.2.2.2.2.1, r.2.2.2.2.2.2.2.2.2.2, rfl, h⟩
def gx_b12 {α β1 β2 β3 β4 β5 β6 β7 β8 β9 β10 β11 β12 : Type} (o : Option (β1 × β2 × β3 × β4 × β5 × β6 × β7 × β8 × β9 × β10 × β11 × β12)) (k : β1 → β2 → β3 → β4 → β5 → β6 → β7 → β8 → β9 → β10 → β11 → β12 → Option α) : Option α := o.bind (fun r => k r.1 r.2.1 r.2.2.1 r.2.2.2.1 r.2.2.2.2.1 r.2.2.2.2.2.1 r.2.2.2.2.2.2.1 r.2.2.2.2.2.2.2.1 r.2.2.2.2.2.2.2.2.1 r.2.2.2.2.2.2.2.2.2.1 r.2.2.2.2.2.2.2.2.2.2.1 r.2.2.2.2.2.2.2.2.2.2.2)
theorem q_b12 {α β1 β2 β3 β4 β5 β6 β7 β8 β9 β10 β11 β12 : Type} {o : Option (β1 × β2 × β3 × β4 × β5 × β6 × β7 × β8 × β9 × β10 × β11 × β12)} {k : β1 → β2 → β3 → β4 → β5 → β6 → β7 → β8 → β9 → β10 → β11 → β12 → Option α} {R : α} (h : gx_b12 o k = some R) : ∃ b1 b2 b3 b4 b5 b6 b7 b8 b9 b10 b11 b12, o = some (b1, b2, b3, b4, b5, b6, b7, b8, b9, b10, b11, b12) ∧ k b1 b2 b3 b4 b5 b6 b7 b8 b9 b10 b11 b12 = some R := by
  cases o with
  | none => exact nomatch h
  | some r => exact ⟨r.1, r.2.1, r.2.2.1, r.2.2.2.1, r.2.2.2.2.1, r.2.2.2.2.2.1, r.2.2.2.2.2.2.1, r.2.2.2.2.2.2.2.1, r.2.2.2.2.2.2.2.2.1, r.2.2.2.2.2.2.2.2.2.1, r.2.2.2.2.2.2.2.2.2.2.1, r.2.2.2.2.2.2.2.2.2.2.2, rfl, h⟩
def gx_b13 {α β1 β2 β3 β4 β5 β6 β7 β8 β9 β10 β11 β12 β13 : Type} (o : Option (β1 × β2 × β3 × β4 × β5 × β6 × β7 × β8 × β9 × β10 × β11 × β12 × β13)) (k : β1 → β2 → β3 → β4 → β5 → β6 → β7 → β8 → β9 → β10 → β11 → β12 → β13 → Option α) : Option α := o.bind (fun r => k r.1 r.2.1 r.2.2.1 r.2.2.2.1 r.2.2.2.2.1 r.2.2.2.2.2.1 r.2.2.2.2.2.2.1 r.2.2.2.2.2.2.2.1 r.2.2.2.2.2.2.2.2.1 r.2.2.2.2.2.2.2.2.2.1 r.2.2.2.2.2.2.2.2.2.2.1 r.2.2.2.2.2.2.2.2.2.2.2.1 r.2.2.2.2.2.2.2.2.2.2.2.2)
theorem q_b13 {α β1 β2 β3 β4 β5 β6 β7 β8 β9 β10 β11 β12 β13 : Type} {o : Option (β1 × β2 × β3 × β4 × β5 × β6 × β7 × β8 × β9 × β10 × β11 × β12 × β13)} {k : β1 → β2 → β3 → β4 → β5 → β6 → β7 → β8 → β9 → β10 → β11 → β12 → β13 → Option α} {R : α} (h : gx_b13 o k = some R) : ∃ b1 b2 b3 b4 b5 b6 b7 b8 b9 b10 b11 b12 b13, o = some (b1, b2, b3, b4, b5, b6, b7, b8, b9, b10, b11, b12, b13) ∧ k b1 b2 b3 b4 b5 b6 b7 b8 b9 b10 b11 b12 b13 = some R := by
  cases o with
  | none => exact nomatch h
  | some r => exact ⟨r.1, r.2.1, r.2.2.1, r.2.2.2.1, r.2.2.2.2.1, r.2.2.2.2.2.1, r.2.2.2.2.2.2.1, r.2.2.2.2.2.2.2.1, r.2.2.2.2.2.2.2.2.1, r.2.2.2.2.2.2.2.2.2.1, r.2.2.2.2.2.2.2.2.2.2.1, r.2.2.2.2.2.2.2.2.2.2.2.1, r.2.2.2.2.2.2.2.2.2.2.2.2, rfl, h⟩
def gx_b14 {α β1 β2 β3 β4 β5 β6 β7 β8 β9 β10 β11 β12 β13 β14 : Type} (o : Option (β1 × β2 × β3 × β4 × β5 × β6 × β7 × β8 × β9 × β10 × β11 × β12 × β13 × β14)) (k : β1 → β2 → β3 → β4 → β5 → β6 → β7 → β8 → β9 → β10 → β11 → β12 → β13 → β14 → Option α) : Option α := o.bind (fun r => k r.1 r.2.1 r.2.2.1 r.2.2.2.1 r.2.2.2.2.1 r.2.2.2.2.2.1 r.2.2.2.2.2.2.1 r.2.2.2.2.2.2.2.1 r.2.2.2.2.2.2.2.2.1 r.2.2.2.2.2.2.2.2.2.1 r.2.2.2.2.2.2.2.2.2.2.1 r.2.2.2.2.2.2.2.2.2.2.2.1 r.2.2.2.2.2.2.2.2.2.2.2.2.1 r.2.2.2.2.2.2.2.2.2.2.2.2.2)
theorem q_b14 {α β1 β2 β3 β4 β5 β6 β7 β8 β9 β10 β11 β12 β13 β14 : Type} {o : Option (β1 × β2 × β3 × β4 × β5 × β6 × β7 × β8 × β9 × β10 × β11 × β12 × β13 × β14)} {k : β1 → β2 → β3 → β4 → β5 → β6 → β7 → β8 → β9 → β10 → β11 → β12 → β13 → β14 → Option α} {R : α} (h : gx_b14 o k = some R) : ∃ b1 b2 b3 b4 b5 b6 b7 b8 b9 b10 b11 b12 b13 b14, o = some (b1, b2, b3, b4, b5, b6, b7, b8, b9, b10, b11, b12, b13, b14) ∧ k b1 b2 b3 b4 b5 b6 b7 b8 b9 b10 b11 b12 b13 b14 = some R := by
  cases o with
  | none => exact nomatch h
  | some r => exact ⟨r.1, r.2.1, r.2.2.1, r.2.2.2.1, r.2.2.2.2.1, r.2.2.2.2.2.1, r.2.2.2.2.2.2.1, r.2.2.2.2.2.2.2.1, r.2.2.2.2.2.2.2.2.1, r.2.2.2.2.2.2.2.2.2.1, r.2.2.2.2.2.2.2.2.2.2.1, r.2.2.2.2.2.2.2.2.2.2.2.1, r.2.2.2.2.2.2.2.2.2.2.2.2.1, r.2.2.2.2.2.2.2.2.2.2.2.2.2, rfl, h⟩
def gx_b15 {α β1 β2 β3 β4 β5 β6 β7 β8 β9 β10 β11 β12 β13 β14 β15 : Type} (o : Option (β1 × β2 × β3 × β4 × β5 × β6 × β7 × β8 × β9 × β10 × β11 × β12 × β13 × β14 × β15)) (k : β1 → β2 → β3 → β4 → β5 → β6 → β7 → β8 → β9 → β10 → β11 → β12 → β13 → β14 → β15 → Option α) : Option α := o.bind (fun r => k r.1 r.2.1 r.2.2.1 r.2.2.2.1 r.2.2.2.2.1 r.2.2.2.2.2.1 r.2.2.2.2.2.2.1 r.2.2.2.2.2.2.2.1 r.2.2.2.2.2.2.2.2.1 r.2.2.2.2.2.2.2.2.2.1 r.2.2.2.2.2.2.2.2.2.2.1 r.2.2.2.2.2.2.2.2.2.2.2.1 r.2.2.2.2.2.2.2.2.2.2.2.2.1 r.2.2.2.2.2.2.2.2.2.2.2.2.2.1 r.2.2.2.2.2.2.2.2.2.2.2.2.2.2)
theorem q_b15 {α β1 β2 β3 β4 β5 β6 β7 β8 β9 β10 β11 β12 β13 β14 β15 : Type} {o : Option (β1 × β2 × β3 × β4 × β5 × β6 × β7 × β8 × β9 × β10 × β11 × β12 × β13 × β14 × β15)} {k : β1 → β2 → β3 → β4 → β5 → β6 → β7 → β8 → β9 → β10 → β11 → β12 → β13 → β14 → β15 → Option α} {R : α} (h : gx_b15 o k = some R) : ∃ b1 b2 b3 b4 b5 b6 b7 b8 b9 b10 b11 b12 b13 b14 b15, o = some (b1, b2, b3, b4, b5, b6, b7, b8, b9, b10, b11, b12, b13, b14, b15) ∧ k b1 b2 b3 b4 b5 b6 b7 b8 b9 b10 b11 b12 b13 b14 b15 = some R := by
  cases o with
  | none => exact nomatch h
  | some r => exact ⟨r.1, r.2.1, r.2.2.1, r.2.2.2.1, r.2.2.2.2.1, r.2.2.2.2.2.1, r.2.2.2.2.2.2.1, r.2.2.2.2.2.2.2.1, r.2.2.2.2.2.2.2.2.1, r.2.2.2.2.2.2.2.2.2.1, r.2.2.2.2.2.2.2.2.2.2.1, r.2.2.2.2.2.2.2.2.2.2.2.1, r.2.2.2.2.2.2.2.2.2.2.2.2.1, r.2.2.2.2.2.2.2.2.2.2.2.2.2.1, r.2.2.2.2.2.2.2.2.2.2.2.2.2.2, rfl, h⟩
def gx_b16 {α β1 β2 β3 β4 β5 β6 β7 β8 β9 β10 β11 β12 β13 β14 β15 β16 : Type} (o : Option (β1 × β2 × β3 × β4 × β5 × β6 × β7 × β8 × β9 × β10 × β11 × β12 × β13 × β14 × β15 × β16)) (k : β1 → β2 → β3 → β4 → β5 → β6 → β7 → β8 → β9 → β10 → β11 → β12 → β13 → β14 → β15 → β16 → Option α) : Option α := o.bind (fun r => k r.1 r.2.1 r.2.2.1 r.2.2.2.1 r.2.2.2.2.1 r.2.2.2.2.2.1 r.2.2.2.2.2.2.1 r.2.2.2.2.2.2.2.1 r.2.2.2.2.2.2.2.2.1 r.2.2.2.2.2.2.2.2.2.1 r.2.2.2.2.2.2.2.2.2.2.1 r.2.2.2.2.2.2.2.2.2.2.2.1 r.2.2.2.2.2.2.2.2.2.2.2.2.1 r.2.2.2.2.2.2.2.2.2.2.2.2.2.1 r.2.2.2.2.2.2.2.2.2.2.2.2.2.2.1 r.2.2.2.2.2.2.2.2.2.2.2.2.2.2.2)
theorem q_b16 {α β1 β2 β3 β4 β5 β6 β7 β8 β9 β10 β11 β12 β13 β14 β15 β16 : Type} {o : Option (β1 × β2 × β3 × β4 × β5 × β6 × β7 × β8 × β9 × β10 × β11 × β12 × β13 × β14 × β15 × β16)} {k : β1 → β2 → β3 → β4 → β5 → β6 → β7 → β8 → β9 → β10 → β11 → β12 → β13 → β14 → β15 → β16 → Option α} {R : α} (h : gx_b16 o k = some R) : ∃ b1 b2 b3 b4 b5 b6 b7 b8 b9 b10 b11 b12 b13 b14 b15 b16, o = some (b1, b2, b3, b4, b5, b6, b7, b8, b9, b10, b11, b12, b13, b14, b15, b16) ∧ k b1 b2 b3 b4 b5 b6 b7 b8 b9 b10 b11 b12 b13 b14 b15 b16 = some R := by
  cases o with
  | none => exact nomatch h
  | some r => exact ⟨r.1, r.2.1, r.2.2.1, r.2.2.2.1, r.2.2.2.2.1, r.2.2.2.2.2.1, r.2.2.2.2.2.2.1, r.2.2.2.2.2.2.2.1, r.2.2.2.2.2.2.2.2.1, r.2.2.2.2.2.2.2.2.2.1, r.2.2.2.2.2.2.2.2.2.2.1, r.2.2.2.2.2.2.2.2.2.2.2.1, r.2.2.2.2.2.2.2.2.2.2.2.2.1, r.2.2.2.2.2.2.2.2.2.2.2.2.2.1, r.2.2.2.2.2.2.2.2.2.2.2.2.2.2.1, r.2.2.2.2.2.2.2.2.2.2.2.2.2.2.2, rfl, h⟩
def gx_b17 {α β1 β2 β3 β4 β5 β6 β7 β8 β9 β10 β11 β12 β13 β14 β15 β16 β17 : Type} (o : Option (β1 × β2 × β3 × β4 × β5 × β6 × β7 × β8 × β9 × β10 × β11 × β12 × β13 × β14 × β15 × β16 × β17)) (k : β1 → β2 → β3 → β4 → β5 → β6 → β7 → β8 → β9 → β10 → β11 → β12 → β13 → β14 → β15 → β16 → β17 → Option α) : Option α := o.bind (fun r => k r.1 r.2.1 r.2.2.1 r.2.2.2.1 r.2.2.2.2.1 r.2.2.2.2.2.1 r.2.2.2.2.2.2.1 r.2.2.2.2.2.2.2.1 r.2.2.2.2.2.2.2.2.1 r.2.2.2.2.2.2.2.2.2.1 r.2.2.2.2.2.2.2.2.2.2.1 r.2.2.2.2.2.2.2.2.2.2.2.1 r.2.2.2.2.2.2.2.2.2.2.2.2.1 r.2.2.2.2.2.2.2.2.2.2.2.2.2.1 r.2.2.2.2.2.2.2.2.2.2.2.2.2.2.1 r.2.2.2.2.2.2.2.2.2.2.2.2.2.2.2.1 r.2.2.2.2.2.2.2.2.2.2.2.2.2.2.2.2)
theorem q_b17 {α β1 β2 β3 β4 β5 β6 β7 β8 β9 β10 β11 β12 β13 β14 β15 β16 β17 : Type} {o : Option (β1 × β2 × β3 × β4 × β5 × β6 × β7 × β8 × β9 × β10 × β11 × β12 × β13 × β14 × β15 × β16 × β17)} {k : β1 → β2 → β3 → β4 → β5 → β6 → β7 → β8 → β9 → β10 → β11 → β12 → β13 → β14 → β15 → β16 → β17 → Option α} {R : α} (h : gx_b17 o k = some R) : ∃ b1 b2 b3 b4 b5 b6 b7 b8 b9 b10 b11 b12 b13 b14 b15 b16 b17, o = some (b1, b2, b3, b4, b5, b6, b7, b8, b9, b10, b11, b12, b13, b14, b15, b16, b17) ∧ k b1 b2 b3 b4 b5 b6 b7 b8 b9 b10 b11 b12 b13 b14 b15 b16 b17 = some R := by
  cases o with
  | none => exact nomatch h
  | some r => exact ⟨r.1, r.2.1, r.2.2.1, r.2.2.2.1, r.2.2.2.2.1, r.2.2.2.2.2.1, r.2.2.2.2.2.2.1, r.2.2.2.2.2.2.2.1, r.2.2.2.2.2.2.2.2.1, r.2.2.2.2.2.2.2.2.2.1, r.2.2.2.2.2.2.2.2.2.2.1, r.2.2.2.2.2.2.2.2.2.2.2.1, r.2.2.2.2.2.2.2.2.2.2.2.2.1, r.2.2.2.2.2.2.2.2.2.2.2.2.2.1, r.2.2.2.2.2.2.2.2.2.2.2.2.2.2.1, r.2.2.2.2.2.2.2.2.2.2.2.2.2.2.2.1, r.2.2.2.2.2.2.2.2.2.2.2.2.2.2.2.2, rfl, h⟩
def gx_b18 {α β1 β2 β3 β4 β5 β6 β7 β8 β9 β10 β11 β12 β13 β14 β15 β16 β17 β18 : Type} (o : Option (β1 × β2 × β3 × β4 × β5 × β6 × β7 × β8 × β9 × β10 × β11 × β12 × β13 × β14 × β15 × β16 × β17 × β18)) (k : β1 → β2 → β3 → β4 → β5 → β6 → β7 → β8 → β9 → β10 → β11 → β12 → β13 → β14 → β15 → β16 → β17 → β18 → Option α) : Option α := o.bind (fun r => k r.1 r.2.1 r.2.2.1 r.2.2.2.1 r.2.2.2.2.1 r.2.2.2.2.2.1 r.2.2.2.2.2.2.1 r.2.2.2.2.2.2.2.1 r.2.2.2.2.2.2.2.2.1 r.2.2.2.2.2.2.2.2.2.1 r.2.2.2.2.2.2.2.2.2.2.1 r.2.2.2.2.2.2.2.2.2.2.2.1 r.2.2.2.2.2.2.2.2.2.2.2.2.1 r.2.2.2.2.2.2.2.2.2.2.2.2.2.1 r.2.2.2.2.2.2.2.2.2.2.2.2.2.2.1 r.2.2.2.2.2.2.2.2.2.2.2.2.2.2.2.1 r.2.2.2.2.2.2.2.2.2.2.2.2.2.2.2.2.1 r.2.2.2.2.2.2.2.2.2.2.2.2.2.2.2.2.2)
theorem q_b18 {α β1 β2 β3 β4 β5 β6 β7 β8 β9 β10 β11 β12 β13 β14 β15 β16 β17 β18 : Type} {o : Option (β1 × β2 × β3 × β4 × β5 × β6 × β7 × β8 × β9 × β10 × β11 × β12 × β13 × β14 × β15 × β16 × β17 × β18)} {k : β1 → β2 → β3 → β4 → β5 → β6 → β7 → β8 → β9 → β10 → β11 → β12 → β13 → β14 → β15 → β16 → β17 → β18 → Option α} {R : α} (h : gx_b18 o k = some R) : ∃ b1 b2 b3 b4 b5 b6 b7 b8 b9 b10 b11 b12 b13 b14 b15 b16 b17 b18, o = some (b1, b2, b3, b4, b5, b6, b7, b8, b9, b10, b11, b12, b13, b14, b15, b16, b17, b18) ∧ k b1 b2 b3 b4 b5 b6 b7 b8 b9 b10 b11 b12 b13 b14 b15 b16 b17 b18 = some R := by
  cases o with
  | none => exact nomatch h
  | some r => exact ⟨r.1, r.2.1, r.2.2.1, r.2.2.2.1, r.2.2.2.2.1, r.2.2.2.2.2.1, r.2.2.2.2.2.2.1, r.2.2.2.2.2.2.2.1, r.2.2.2.2.2.2.2.2.1, r.2.2.2.2.2.2.2.2.2.1, r.2.2.2.2.2.2.2.2.2.2.1, r.2.2.2.2.2.2.2.2.2.2.2.1, r.2.2.2.2.2.2.2.2.2.2.2.2.1, r.2.2.2.2.2.2.2.2.2.2.2.2.2.1, r.2.2.2.2.2.2.2.2.2.2.2.2.2.2.1, r.2.2.2.2.2.2.2.2.2.2.2.2.2.2.2.1, r.2.2.2.2.2.2.2.2.2.2.2.2.2.2.2.2.1, r.2.2.2.2.2.2.2.2.2.2.2.2.2.2.2.2.2, rfl, h⟩
def gx_b19 {α β1 β2 β3 β4 β5 β6 β7 β8 β9 β10 β11 β12 β13 β14 β15 β16 β17 β18 β19 : Type} (o : Option (β1 × β2 × β3 × β4 × β5 × β6 × β7 × β8 × β9 × β10 × β11 × β12 × β13 × β14 × β15 × β16 × β17 × β18 × β19)) (k : β1 → β2 → β3 → β4 → β5 → β6 → β7 → β8 → β9 → β10 → β11 → β12 → β13 → β14 → β15 → β16 → β17 → β18 → β19 → Option α) : Option α := o.bind (fun r => k r.1 r.2.1 r.2.2.1 r.2.2.2.1 r.2.2.2.2.1 r.2.2.2.2.2.1 r.2.2.2.2.2.2.1 r.2.2.2.2.2.2.2.1 r.2.2.2.2.2.2.2.2.1 r.2.2.2.2.2.2.2.2.2.1 r.2.2.2.2.2.2.2.2.2.2.1 r.2.2.2.2.2.2.2.2.2.2.2.1 r.2.2.2.2.2.2.2.2.2.2.2.2.1 r.2.2.2.2.2.2.2.2.2.2.2.2.2.1 r.2.2.2.2.2.2.2.2.2.2.2.2.2.2.1 r.2.2.2.2.2.2.2.2.2.2.2.2.2.2.2.1 r.2.2.2.2.2.2.2.2.2.2.2.2.2.2.2.2.1 r.2.2.2.2.2.2.2.2.2.2.2.2.2.2.2.2.2.1 r.2.2.2.2.2.2.2.2.2.2.2.2.2.2.2.2.2.2)
theorem q_b19 {α β1 β2 β3 β4 β5 β6 β7 β8 β9 β10 β11 β12 β13 β14 β15 β16 β17 β18 β19 : Type} {o : Option (β1 × β2 × β3 × β4 × β5 × β6 × β7 × β8 × β9 × β10 × β11 × β12 × β13 × β14 × β15 × β16 × β17 × β18 × β19)} {k : β1 → β2 → β3 → β4 → β5 → β6 → β7 → β8 → β9 → β10 → β11 → β12 → β13 → β14 → β15 → β16 → β17 → β18 → β19 → Option α} {R : α} (h : gx_b19 o k = some R) : ∃ b1 b2 b3 b4 b5 b6 b7 b8 b9 b10 b11 b12 b13 b14 b15 b16 b17 b18 b19, o = some (b1, b2, b3, b4, b5, b6, b7, b8, b9, b10, b11, b12, b13, b14, b15, b16, b17, b18, b19) ∧ k b1 b2 b3 b4 b5 b6 b7 b8 b9 b10 b11 b12 b13 b14 b15 b16 b17 b18 b19 = some R := by
  cases o with
  | none => exact nomatch h
  | some r => exact ⟨r.1, r.2.1, r.2.2.1, r.2.2.2.1, r.2.2.2.2.1, r.2.2.2.2.2.1, r.2.2.2.2.2.2.1, r.2.2.2.2.2.2.2.1, r.2.2.2.2.2.2.2.2.1, r.2.2.2.2.2.2.2.2.2.1, r.2.2.2.2.2.2.2.2.2.2.1, r.2.2.2.2.2.2.2.2.2.2.2.1, r.2.2.2.2.2.2.2.2.2.2.2.2.1, r.2.2.2.2.2.2.2.2.2.2.2.2.2.1, r.2.2.2.2.2.2.2.2.2.2.2.2.2.2.1, r.2.2.2.2.2.2.2.2.2.2.2.2.2.2.2.1, r.2.2.2.2.2.2.2.2.2.2.2.2.2.2.2.2.1, r.2.2.2.2.2.2.2.2.2.2.2.2.2.2.2.2.2.1, r.2.2.2.2.2.2.2.2.2.2.2.2.2.2.2.2.2.2, rfl, h⟩
def gx_b20 {α β1 β2 β3 β4 β5 β6 β7 β8 β9 β10 β11 β12 β13 β14 β15 β16 β17 β18 β19 β20 : Type} (o : Option (β1 × β2 × β3 × β4 × β5 × β6 × β7 × β8 × β9 × β10 × β11 × β12 × β13 × β14 × β15 × β16 × β17 × β18 × β19 × β20)) (k : β1 → β2 → β3 → β4 → β5 → β6 → β7 → β8 → β9 → β10 → β11 → β12 → β13 → β14 → β15 → β16 → β17 → β18 → β19 → β20 → Option α) : Option α := o.bind (fun r => k r.1 r.2.1 r.2.2.1 r.2.2.2.1 r.2.2.2.2.1 r.2.2.2.2.2.1 r.2.2.2.2.2.2.1 r.2.2.2.2.2.2.2.1 r.2.2.2.2.2.2.2.2.1 r.2.2.2.2.2.2.2.2.2.1 r.2.2.2.2.2.2.2.2.2.2.1 r.2.2.2.2.2.2.2.2.2.2.2.1 r.2.2.2.2.2.2.2.2.2.2.2.2.1 r.2.2.2.2.2.2.2.2.2.2.2.2.2.1 r.2.2.2.2.2.2.2.2.2.2.2.2.2.2.1 r.2.2.2.2.2.2.2.2.2.2.2.2.2.2.2.1 r.2.2.2.2.2.2.2.2.2.2.2.2.2.2.2.2.1 r.2.2.2.2.2.2.2.2.2.2.2.2.2.2.2.2.2.1 r.2.2.2.2.2.2.2.2.2.2.2.2.2.2.2.2.2.2.1 r.2.2.2.2.2.2.2.2.2.2.2.2.2.2.2.2.2.2.2)
theorem q_b20 {α β1 β2 β3 β4 β5 β6 β7 β8 β9 β10 β11 β12 β13 β14 β15 β16 β17 β18 β19 β20 : Type} {o : Option (β1 × β2 × β3 × β4 × β5 × β6 × β7 × β8 × β9 × β10 × β11 × β12 × β13 × β14 × β15 × β16 × β17 × β18 × β19 × β20)} {k : β1 → β2 → β3 → β4 → β5 → β6 → β7 → β8 → β9 → β10 → β11 → β12 → β13 → β14 → β15 → β16 → β17 → β18 → β19 → β20 → Option α} {R : α} (h : gx_b20 o k = some R) : ∃ b1 b2 b3 b4 b5 b6 b7 b8 b9 b10 b11 b12 b13 b14 b15 b16 b17 b18 b19 b20, o = some (b1, b2, b3, b4, b5, b6, b7, b8, b9, b10, b11, b12, b13, b14, b15, b16, b17, b18, b19, b20) ∧ k b1 b2 b3 b4 b5 b6 b7 b8 b9 b10 b11 b12 b13 b14 b15 b16 b17 b18 b19 b20 = some R := by
  cases o with
  | none => exact nomatch h
  | some r => exact ⟨r.1, r.2.1, r.2.2.1, r.2.2.2.1, r.2.2.2.2.1, r.2.2.2.2.2.1, r.2.2.2.2.2.2.1, r.2.2.2.2.2.2.2.1, r.2.2.2.2.2.2.2.2.1, r.2.2.2.2.2.2.2.2.2.1, r.2.2.2.2.2.2.2.2.2.2.1, r.2.2.2.2.2.2.2.2.2.2.2.1, r.2.2.2.2.2.2.2.2.2.2.2.2.1, r.2.2.2.2.2.2.2.2.2.2.2.2.2.1, r.2.2.2.2.2.2.2.2.2.2.2.2.2.2.1, r.2.2.2.2.2.2.2.2.2.2.2.2.2.2.2.1, r.2.2.2.2.2.2.2.2.2.2.2.2.2.2.2.2.1, r.2.2.2.2.2.2.2.2.2.2.2.2.2.2.2.2.2.1, r.2.2.2.2.2.2.2.2.2.2.2.2.2.2.2.2.2.2.1, r.2.2.2.2.2.2.2.2.2.2.2.2.2.2.2.2.2.2.2, rfl, h⟩
def gx_b21 {α β1 β2 β3 β4 β5 β6 β7 β8 β9 β10 β11 β12 β13 β14 β15 β16 β17 β18 β19 β20 β21 : Type} (o : Option (β1 × β2 × β3 × β4 × β5 × β6 × β7 × β8 × β9 × β10 × β11 × β12 × β13 × β14 × β15 × β16 × β17 × β18 × β19 × β20 × β21)) (k : β1 → β2 → β3 → β4 → β5 → β6 → β7 → β8 → β9 → β10 → β11 → β12 → β13 → β14 → β15 → β16 → β17 → β18 → β19 → β20 → β21 → Option α) : Option α := o.bind (fun r => k r.1 r.2.1 r.2.2.1 r.2.2.2.1 r.2.2.2.2.1 r.2.2.2.2.2.1 r.2.2.2.2.2.2.1 r.2.2.2.2.2.2.2.1 r.2.2.2.2.2.2.2.2.1 r.2.2.2.2.2.2.2.2.2.1 r.2.2.2.2.2.2.2.2.2.2.1 r.2.2.2.2.2.2.2.2.2.2.2.1 r.2.2.2.2.2.2.2.2.2.2.2.2.1 r.2.2.2.2.2.2.2.2.2.2.2.2.2.1 r.2.2.2.2.2.2.2.2.2.2.2.2.2.2.1 r.2.2.2.2.2.2.2.2.2.2.2.2.2.2.2.1 r.2.2.2.2.2.2.2.2.2.2.2.2.2.2.2.2.1 r.2.2.2.2.2.2.2.2.2.2.2.2.2.2.2.2.2.1 r.2.2.2.2.2.2.2.2.2.2.2.2.2.2.2.2.2.2.1 r.2.2.2.2.2.2.2.2.2.2.2.2.2.2.2.2.2.2.2.1 r.2.2.2.2.2.2.2.2.2.2.2.2.2.2.2.2.2.2.2.2)
theorem q_b21 {α β1 β2 β3 β4 β5 β6 β7 β8 β9 β10 β11 β12 β13 β14 β15 β16 β17 β18 β19 β20 β21 : Type} {o : Option (β1 × β2 × β3 × β4 × β5 × β6 × β7 × β8 × β9 × β10 × β11 × β12 × β13 × β14 × β15 × β16 × β17 × β18 × β19 × β20 × β21)} {k : β1 → β2 → β3 → β4 → β5 → β6 → β7 → β8 → β9 → β10 → β11 → β12 → β13 → β14 → β15 → β16 → β17 → β18 → β19 → β20 → β21 → Option α} {R : α} (h : gx_b21 o k = some R) : ∃ b1 b2 b3 b4 b5 b6 b7 b8 b9 b10 b11 b12 b13 b14 b15 b16 b17 b18 b19 b20 b21, o = some (b1, b2, b3, b4, b5, b6, b7, b8, b9, b10, b11, b12, b13, b14, b15, b16, b17, b18, b19, b20, b21) ∧ k b1 b2 b3 b4 b5 b6 b7 b8 b9 b10 b11 b12 b13 b14 b15 b16 b17 b18 b19 b20 b21 = some R := by
  cases o with
  | none => exact nomatch h
  | some r => exact ⟨r.1, r.2.1, r.2.2.1, r.2.2.2.1, r.2.2.2.2.1, r.2.2.2.2.2.1, r.2.2.2.2.2.2.1, r.2.2.2.2.2.2.2.1, r.2.2.2.2.2.2.2.2.1, r.2.2.2.2.2.2.2.2.2.1, r.2.2.2.2.2.2.2.2.2.2.1, r.2.2.2.2.2.2.2.2.2.2.2.1, r.2.2.2.2.2.2.2.2.2.2.2.2.1, r.2.2.2.2.2.2.2.2.2.2.2.2.2.1, r.2.2.2.2.2.2.2.2.2.2.2.2.2.2.1, r.2.2.2.2.2.2.2.2.2.2.2.2.2.2.2.1, r.2.2.2.2.2.2.2.2.2.2.2.2.2.2.2.2.1, r.2.2.2.2.2.2.2.2.2.2.2.2.2.2.2.2.2.1, r.2.2.2.2.2.2.2.2.2.2.2.2.2.2.2.2.2.2.1, r.2.2.2.2.2.2.2.2.2.2.2.2.2.2.2.2.2.2.2.1, r.2.2.2.2.2.2.2.2.2.2.2.2.2.2.2.2.2.2.2.2, rfl, h⟩
def gx_b22 {α β1 β2 β3 β4 β5 β6 β7 β8 β9 β10 β11 β12 β13 β14 β15 β16 β17 β18 β19 β20 β21 β22 : Type} (o : Option (β1 × β2 × β3 × β4 × β5 × β6 × β7 × β8 × β9 × β10 × β11 × β12 × β13 × β14 × β15 × β16 × β17 × β18 × β19 × β20 × β21 × β22)) (k : β1 → β2 → β3 → β4 → β5 → β6 → β7 → β8 → β9 → β10 → β11 → β12 → β13 → β14 → β15 → β16 → β17 → β18 → β19 → β20 → β21 → β22 → Option α) : Option α := o.bind (fun r => k r.1 r.2.1 r.2.2.1 r.2.2.2.1 r.2.2.2.2.1 r.2.2.2.2.2.1 r.2.2.2.2.2.2.1 r.2.2.2.2.2.2.2.1 r.2.2.2.2.2.2.2.2.1 r.2.2.2.2.2.2.2.2.2.1 r.2.2.2.2.2.2.2.2.2.2.1 r.2.2.2.2.2.2.2.2.2.2.2.1 r.2.2.2.2.2.2.2.2.2.2.2.2.1 r.2.2.2.2.2.2.2.2.2.2.2.2.2.1 r.2.2.2.2.2.2.2.2.2.2.2.2.2.2.1 r.2.2.2.2.2.2.2.2.2.2.2.2.2.2.2.1 r.2.2.2.2.2.2.2.2.2.2.2.2.2.2.2.2.1 r.2.2.2.2.2.2.2.2.2.2.2.2.2.2.2.2.2.1 r.2.2.2.2.2.2.2.2.2.2.2.2.2.2.2.2.2.2.1 r.2.2.2.2.2.2.2.2.2.2.2.2.2.2.2.2.2.2.2.1 r.2.2.2.2.2.2.2.2.2.2.2.2.2.2.2.2.2.2.2.2.1 r.2.2.2.2.2.2.2.2.2.2.2.2.2.2.2.2.2.2.2.2.2)
theorem q_b22 {α β1 β2 β3 β4 β5 β6 β7 β8 β9 β10 β11 β12 β13 β14 β15 β16 β17 β18 β19 β20 β21 β22 : Type} {o : Option (β1 × β2 × β3 × β4 × β5 × β6 × β7 × β8 × β9 × β10 × β11 × β12 × β13 × β14 × β15 × β16 × β17 × β18 × β19 × β20 × β21 × β22)} {k : β1 → β2 → β3 → β4 → β5 → β6 → β7 → β8 → β9 → β10 → β11 → β12 → β13 → β14 → β15 → β16 → β17 → β18 → β19 → β20 → β21 → β22 → Option α} {R : α} (h : gx_b22 o k = some R) : ∃ b1 b2 b3 b4 b5 b6 b7 b8 b9 b10 b11 b12 b13 b14 b15 b16 b17 b18 b19 b20 b21 b22, o = some (b1, b2, b3, b4, b5, b6, b7, b8, b9, b10, b11, b12, b13, b14, b15, b16, b17, b18, b19, b20, b21, b22) ∧ k b1 b2 b3 b4 b5 b6 b7 b8 b9 b10 b11 b12 b13 b14 b15 b16 b17 b18 b19 b20 b21 b22 = some R := by
  cases o with
  | none => exact nomatch h
  | some r => exact ⟨r.1, r.2.1, r.2.2.1, r.2.2.2.1, r.2.2.2.2.1, r.2.2.2.2.2.1, r.2.2.2.2.2.2.1, r.2.2.2.2.2.2.2.1, r.2.2.2.2.2.2.2.2.1, r.2.2.2.2.2.2.2.2.2.1, r.2.2.2.2.2.2.2.2.2.2.1, r.2.2.2.2.2.2.2.2.2.2.2.1, r.2.2.2.2.2.2.2.2.2.2.2.2.1, r.2.2.2.2.2.2.2.2.2.2.2.2.2.1, r.2.2.2.2.2.2.2.2.2.2.2.2.2.2.1, r.2.2.2.2.2.2.2.2.2.2.2.2.2.2.2.1, r.2.2.2.2.2.2.2.2.2.2.2.2.2.2.2.2.1, r.2.2.2.2.2.2.2.2.2.2.2.2.2.2.2.2.2.1, r.2.2.2.2.2.2.2.2.2.2.2.2.2.2.2.2.2.2.1, r.2.2.2.2.2.2.2.2.2.2.2.2.2.2.2.2.2.2.2.1, r.2.2.2.2.2.2.2.2.2.2.2.2.2.2.2.2.2.2.2.2.1, r.2.2.2.2.2.2.2.2.2.2.2.2.2.2.2.2.2.2.2.2.2, rfl, h⟩
def gx_b23 {α β1 β2 β3 β4 β5 β6 β7 β8 β9 β10 β11 β12 β13 β14 β15 β16 β17 β18 β19 β20 β21 β22 β23 : Type} (o : Option (β1 × β2 × β3 × β4 × β5 × β6 × β7 × β8 × β9 × β10 × β11 × β12 × β13 × β14 × β15 × β16 × β17 × β18 × β19 × β20 × β21 × β22 × β23)) (k : β1 → β2 → β3 → β4 → β5 → β6 → β7 → β8 → β9 → β10 → β11 → β12 → β13 → β14 → β15 → β16 → β17 → β18 → β19 → β20 → β21 → β22 → β23 → Option α) : Option α := o.bind (fun r => k r.1 r.2.1 r.2.2.1 r.2.2.2.1 r.2.2.2.2.1 r.2.2.2.2.2.1 r.2.2.2.2.2.2.1 r.2.2.2.2.2.2.2.1 r.2.2.2.2.2.2.2.2.1 r.2.2.2.2.2.2.2.2.2.1 r.2.2.2.2.2.2.2.2.2.2.1 r.2.2.2.2.2.2.2.2.2.2.2.1 r.2.2.2.2.2.2.2.2.2.2.2.2.1 r.2.2.2.2.2.2.2.2.2.2.2.2.2.1 r.2.2.2.2.2.2.2.2.2.2.2.2.2.2.1 r.2.2.2.2.2.2.2.2.2.2.2.2.2.2.2.1 r.2.2.2.2.2.2.2.2.2.2.2.2.2.2.2.2.1 r.2.2.2.2.2.2.2.2.2.2.2.2.2.2.2.2.2.1 r.2.2.2.2.2.2.2.2.2.2.2.2.2.2.2.2.2.2.1 r.2.2.2.2.2.2.2.2.2.2.2.2.2.2.2.2.2.2.2.1 r.2.2.2.2.2.2.2.2.2.2.2.2.2.2.2.2.2.2.2.2.1 r.2.2.2.2.2.2.2.2.2.2.2.2.2.2.2.2.2.2.2.2.2.1 r.2.2.2.2.2.2.2.2.2.2.2.2.2.2.2.2.2.2.2.2.2.2)
theorem q_b23 {α β1 β2 β3 β4 β5 β6 β7 β8 β9 β10 β11 β12 β13 β14 β15 β16 β17 β18 β19 β20 β21 β22 β23 : Type} {o : Option (β1 × β2 × β3 × β4 × β5 × β6 × β7 × β8 × β9 × β10 × β11 × β12 × β13 × β14 × β15 × β16 × β17 × β18 × β19 × β20 × β21 × β22 × β23)} {k : β1 → β2 → β3 → β4 → β5 → β6 → β7 → β8 → β9 → β10 → β11 → β12 → β13 → β14 → β15 → β16 → β17 → β18 → β19 → β20 → β21 → β22 → β23 → Option α} {R : α} (h : gx_b23 o k = some R) : ∃ b1 b2 b3 b4 b5 b6 b7 b8 b9 b10 b11 b12 b13 b14 b15 b16 b17 b18 b19 b20 b21 b22 b23, o = some (b1, b2, b3, b4, b5, b6, b7, b8, b9, b10, b11, b12, b13, b14, b15, b16, b17, b18, b19, b20, b21, b22, b23) ∧ k b1 b2 b3 b4 b5 b6 b7 b8 b9 b10 b11 b12 b13 b14 b15 b16 b17 b18 b19 b20 b21 b22 b23 = some R := by
  cases o with
  | none => exact nomatch h
  | some r => exact ⟨r.1, r.2.1, r.2.2.1, r.2.2.2.1, r.2.2.2.2.1, r.2.2.2.2.2.1, r.2.2.2.2.2.2.1, r.2.2.2.2.2.2.2.1, r.2.2.2.2.2.2.2.2.1, r.2.2.2.2.2.2.2.2.2.1, r.2.2.2.2.2.2.2.2.2.2.1, r.2.2.2.2.2.2.2.2.2.2.2.1, r.2.2.2.2.2.2.2.2.2.2.2.2.1, r.2.2.2.2.2.2.2.2.2.2.2.2.2.1, r.2.2.2.2.2.2.2.2.2.2.2.2.2.2.1, r.2.2.2.2.2.2.2.2.2.2.2.2.2.2.2.1, r.2.2.2.2.2.2.2.2.2.2.2.2.2.2.2.2.1, r.2.2.2.2.2.2.2.2.2.2.2.2.2.2.2.2.2.1, r.2.2.2.2.2.2.2.2.2.2.2.2.2.2.2.2.2.2.1, r.2.2.2.2.2.2.2.2.2.2.2.2.2.2.2.2.2.2.2.1, r.2.2.2.2.2.2.2.2.2.2.2.2.2.2.2.2.2.2.2.2.1, r.2.2.2.2.2.2.2.2.2.2.2.2.2.2.2.2.2.2.2.2.2.1, r.2.2.2.2.2.2.2.2.2.2.2.2.2.2.2.2.2.2.2.2.2.2, rfl, h⟩
def gx_b24 {α β1 β2 β3 β4 β5 β6 β7 β8 β9 β10 β11 β12 β13 β14 β15 β16 β17 β18 β19 β20 β21 β22 β23 β24 : Type} (o : Option (β1 × β2 × β3 × β4 × β5 × β6 × β7 × β8 × β9 × β10 × β11 × β12 × β13 × β14 × β15 × β16 × β17 × β18 × β19 × β20 × β21 × β22 × β23 × β24)) (k : β1 → β2 → β3 → β4 → β5 → β6 → β7 → β8 → β9 → β10 → β11 → β12 → β13 → β14 → β15 → β16 → β17 → β18 → β19 → β20 → β21 → β22 → β23 → β24 → Option α) : Option α := o.bind (fun r => k r.1 r.2.1 r.2.2.1 r.2.2.2.1 r.2.2.2.2.1 r.2.2.2.2.2.1 r.2.2.2.2.2.2.1 r.2.2.2.2.2.2.2.1 r.2.2.2.2.2.2.2.2.1 r.2.2.2.2.2.2.2.2.2.1 r.2.2.2.2.2.2.2.2.2.2.1 r.2.2.2.2.2.2.2.2.2.2.2.1 r.2.2.2.2.2.2.2.2.2.2.2.2.1 r.2.2.2.2.2.2.2.2.2.2.2.2.2.1 r.2.2.2.2.2.2.2.2.2.2.2.2.2.2.1 r.2.2.2.2.2.2.2.2.2.2.2.2.2.2.2.1 r.2.2.2.2.2.2.2.2.2.2.2.2.2.2.2.2.1 r.2.2.2.2.2.2.2.2.2.2.2.2.2.2.2.2.2.1 r.2.2.2.2.2.2.2.2.2.2.2.2.2.2.2.2.2.2.1 r.2.2.2.2.2.2.2.2.2.2.2.2.2.2.2.2.2.2.2.1 r.2.2.2.2.2.2.2.2.2.2.2.2.2.2.2.2.2.2.2.2.1 r.2.2.2.2.2.2.2.2.2.2.2.2.2.2.2.2.2.2.2.2.2.1 r.2.2.2.2.2.2.2.2.2.2.2.2.2.2.2.2.2.2.2.2.2.2.1 r.2.2.2.2.2.2.2.2.2.2.2.2.2.2.2.2.2.2.2.2.2.2.2)
theorem q_b24 {α β1 β2 β3 β4 β5 β6 β7 β8 β9 β10 β11 β12 β13 β14 β15 β16 β17 β18 β19 β20 β21 β22 β23 β24 : Type} {o : Option (β1 × β2 × β3 × β4 × β5 × β6 × β7 × β8 × β9 × β10 × β11 × β12 × β13 × β14 × β15 × β16 × β17 × β18 × β19 × β20 × β21 × β22 × β23 × β24)} {k : β1 → β2 → β3 → β4 → β5 → β6 → β7 → β8 → β9 → β10 → β11 → β12 → β13 → β14 → β15 → β16 → β17 → β18 → β19 → β20 → β21 → β22 → β23 → β24 → Option α} {R : α} (h : gx_b24 o k = some R) : ∃ b1 b2 b3 b4 b5 b6 b7 b8 b9 b10 b11 b12 b13 b14 b15 b16 b17 b18 b19 b20 b21 b22 b23 b24, o = some (b1, b2, b3, b4, b5, b6, b7, b8, b9, b10, b11, b12, b13, b14, b15, b16, b17, b18, b19, b20, b21, b22, b23, b24) ∧ k b1 b2 b3 b4 b5 b6 b7 b8 b9 b10 b11 b12 b13 b14 b15 b16 b17 b18 b19 b20 b21 b22 b23 b24 = some R := by
  cases o with
  | none => exact nomatch h
  | some r => exact ⟨r.1, r.2.1, r.2.2.1, r.2.2.2.1, r.2.2.2.2.1, r.2.2.2.2.2.1, r.2.2.2.2.2.2.1, r.2.2.2.2.2.2.2.1, r.2.2.2.2.2.2.2.2.1, r.2.2.2.2.2.2.2.2.2.1, r.2.2.2.2.2.2.2.2.2.2.1, r.2.2.2.2.2.2.2.2.2.2.2.1, r.2.2.2.2.2.2.2.2.2.2.2.2.1, r.2.2.2.2.2.2.2.2.2.2.2.2.2.1, r.2.2.2.2.2.2.2.2.2.2.2.2.2.2.1, r.2.2.2.2.2.2.2.2.2.2.2.2.2.2.2.1, r.2.2.2.2.2.2.2.2.2.2.2.2.2.2.2.2.1, r.2.2.2.2.2.2.2.2.2.2.2.2.2.2.2.2.2.1, r.2.2.2.2.2.2.2.2.2.2.2.2.2.2.2.2.2.2.1, r.2.2.2.2.2.2.2.2.2.2.2.2.2.2.2.2.2.2.2.1, r.2.2.2.2.2.2.2.2.2.2.2.2.2.2.2.2.2.2.2.2.1, r.2.2.2.2.2.2.2.2.2.2.2.2.2.2.2.2.2.2.2.2.2.1, r.2.2.2.2.2.2.2.2.2.2.2.2.2.2.2.2.2.2.2.2.2.2.1, r.2.2.2.2.2.2.2.2.2.2.2.2.2.2.2.2.2.2.2.2.2.2.2, rfl, h⟩
theorem k_fm {α : Type} {ws ws' : List α} {is : List Nat} (h : is.map (fun i => ws[i]?) = ws'.map some) : is.filterMap (fun i => ws[i]?) = ws' := by
  have h2 : (is.map (fun i => ws[i]?)).filterMap id = (ws'.map some).filterMap id := by rw [h]
  rw [List.filterMap_map, List.filterMap_map] at h2
  simpa using h2
abbrev rd_P (av : List Value) (D : va_G) (ca : Nat → ClassId) (ws : va_W) : Array Value → State → Prop := va_Pc av (fun U => va_P D vwCl ws U.heap ∧ va_K D vwCl (tyG ca) U)
abbrev wr_P (av : List Value) (D : va_G) (ca : Nat → ClassId) (ws : va_W) (sz : Nat) : Array Value → State → Prop := va_Pc av (fun U => U.heap.size = sz ∧ va_P D vwCl ws U.heap ∧ va_K D vwCl (tyG ca) U ∧ va_D (fun _ => True) ws)
abbrev wr_B (D : va_G) (w0 : va_W) (sz : Nat) (w1 : va_W) : Unit → State → Prop := fun _ t => va_P D vwCl w1 t.heap ∧ va_D (va_A w0 sz) w1
theorem rd_blind {av : List Value} {D : va_G} {ca : Nat → ClassId} {ws : va_W} : FrameBlind (rd_P av D ca ws) := fun a U g mk q => by
  obtain ⟨q0, qP, qK⟩ := q
  exact ⟨q0, qP, va_K.moved (u := U) (U := U.calling g mk a) (Vm.Alike.refl U.vm) qK⟩
theorem wr_blind {av : List Value} {D : va_G} {ca : Nat → ClassId} {ws : va_W} {sz : Nat} : FrameBlind (wr_P av D ca ws sz) := fun a U g mk q => by
  obtain ⟨q0, q1, qP, qK, qD⟩ := q
  exact ⟨q0, q1, qP, va_K.moved (u := U) (U := U.calling g mk a) (Vm.Alike.refl U.vm) qK, qD⟩
theorem rd_ofI {l : Launch} {y : MethodName} {cc : ByteArray} {maxL : Nat} {rm : Room} {av : List Value} {D : va_G} {ca : Nat → ClassId} {ws : va_W} {r : Int32} (hy : plainFor y = true) (hlen : (lg_sl av).length ≤ maxL)
    (body : ∀ (p : Program) (e : Env) (s : State) (m : MethodId) (below : List Frame) (meth : Method) (c : Code) (Q : State → Prop) (ar : Array Value) (ls : Array Slot),
      p.tables.exec = Jvm.exec → c.code = cc → c.maxLocals = maxL → (∀ w ∈ TT, w.before ar s = true) → s.vm.findClass y.cls = some m.cls → va_P D vwCl ws s.heap → va_K D vwCl (tyG ca) s → lv_has ls maxL (lv_args 0 av) →
      (∀ (v : Int32) (pc : Nat) (ls : Array Slot), decode cc pc = .ok (.ireturn, 1) → v = r → W p l e rm s m ar below meth c s.heap [] 0 0 Q (F0 m pc ls [.int v])) →
      W p l e rm s m ar below meth c s.heap [] 0 0 Q (F0 m 0 ls [])) :
    Met l y (Cond.code y cc maxL (some .int) :: TT) rm (rd_P av D ca ws) (vp_Si (fun x => x = r)) 0 0 (fun _ => False) := by
  refine va_MetF (cc := cc) (maxL := maxL) (ret := some .int) hy rfl ?_
  intro p e s m args below meth c s₁ B hml hv
  obtain ⟨rfl, hP, hK⟩ := hv
  have hts := atoms_spec (ws := Cond.code y cc maxL (some .int) :: TT) B.pre
  have hl := lv_entry av (n := maxL) hlen
  rw [lg_entry_eq]
  generalize (lg_sl av ++ List.replicate (maxL - (lg_sl av).length) Slot.unset).toArray = ls at hl ⊢
  exact body p e s m below meth c _ _ ls B.exec B.bytes hml (fun w h => hts w (List.mem_cons_of_mem _ h)) (findClass_of_methodNamed B.named) hP hK hl
    (fun v pc ls hd hvr => W.iret B.exec B.bytes B.returns (fun t ht hW => ⟨v, rfl, hvr, ht⟩) (fun q h => nomatch h) hd B.notSynchronized)
theorem wr_ofI {l : Launch} {y : MethodName} {cc : ByteArray} {maxL : Nat} {rm : Room} {av : List Value} {D : va_G} {ca : Nat → ClassId} {ws : va_W} {sz : Nat} {ρ : Type} {R : ρ} {val : ρ → Int32} {w1 : ρ → va_W} (hy : plainFor y = true) (hlen : (lg_sl av).length ≤ maxL)
    (body : ∀ (p : Program) (e : Env) (s : State) (m : MethodId) (below : List Frame) (meth : Method) (c : Code) (Q : State → Prop) (ar : Array Value) (ls : Array Slot),
      p.tables.exec = Jvm.exec → c.code = cc → c.maxLocals = maxL → (∀ w ∈ TT, w.before ar s = true) → s.vm.findClass y.cls = some m.cls → va_P D vwCl ws s.heap → va_K D vwCl (tyG ca) s → ∀ A : Nat → Prop, va_D A ws → (∀ q : Nat, s.heap.size ≤ q → A q) → lv_has ls maxL (lv_args 0 av) →
      (∀ (x : ρ) (H : Heap) (locs : List Loc) (pc : Nat) (ls : Array Slot), decode cc pc = .ok (.ireturn, 1) → some x = some R → va_P D vwCl (w1 x) H → va_D A (w1 x) → va_S A s.heap H locs → W p l e rm s m ar below meth c H locs 0 0 Q (F0 m pc ls [.int (val x)])) →
      W p l e rm s m ar below meth c s.heap [] 0 0 Q (F0 m 0 ls [])) :
    Met l y (Cond.code y cc maxL (some .int) :: TT) rm (wr_P av D ca ws sz) (va_Qi (fun r (_ : Unit) => r = val R) (wr_B D ws sz (w1 R)) (va_A ws sz)) 0 0 (va_A ws sz) := by
  refine va_MetF (cc := cc) (maxL := maxL) (ret := some .int) hy rfl ?_
  intro p e s m args below meth c s₁ B hml hv
  obtain ⟨rfl, hsz, hP, hK, hD0⟩ := hv
  subst hsz
  have hD := hD0.self (sz := s.heap.size)
  have hts := atoms_spec (ws := Cond.code y cc maxL (some .int) :: TT) B.pre
  have hl := lv_entry av (n := maxL) hlen
  rw [lg_entry_eq]
  generalize (lg_sl av ++ List.replicate (maxL - (lg_sl av).length) Slot.unset).toArray = ls at hl ⊢
  refine body p e s m below meth c _ _ ls B.exec B.bytes hml (fun w h => hts w (List.mem_cons_of_mem _ h)) (findClass_of_methodNamed B.named) hP hK _ hD (fun q h => Or.inr h) hl ?_
  intro x H locs pc ls hd hxR hP hD hS
  cases hxR
  exact W.iret B.exec B.bytes B.returns (fun t ht hW => ⟨⟨_, (), rfl, rfl, by rw [ht]; exact hP, hD⟩, hS.F ht⟩) hS.2.2 hd B.notSynchronized
theorem rd_ofJ {l : Launch} {y : MethodName} {cc : ByteArray} {maxL : Nat} {rm : Room} {av : List Value} {D : va_G} {ca : Nat → ClassId} {ws : va_W} {r : Int64} (hy : plainFor y = true) (hlen : (lg_sl av).length ≤ maxL)
    (body : ∀ (p : Program) (e : Env) (s : State) (m : MethodId) (below : List Frame) (meth : Method) (c : Code) (Q : State → Prop) (ar : Array Value) (ls : Array Slot),
      p.tables.exec = Jvm.exec → c.code = cc → c.maxLocals = maxL → (∀ w ∈ TT, w.before ar s = true) → s.vm.findClass y.cls = some m.cls → va_P D vwCl ws s.heap → va_K D vwCl (tyG ca) s → lv_has ls maxL (lv_args 0 av) →
      (∀ (v : Int64) (pc : Nat) (ls : Array Slot), decode cc pc = .ok (.lreturn, 1) → v = r → W p l e rm s m ar below meth c s.heap [] 0 0 Q (F0 m pc ls [.long v])) →
      W p l e rm s m ar below meth c s.heap [] 0 0 Q (F0 m 0 ls [])) :
    Met l y (Cond.code y cc maxL (some .long) :: TT) rm (rd_P av D ca ws) (vp_Sl (fun x => x = r)) 0 0 (fun _ => False) := by
  refine va_MetF (cc := cc) (maxL := maxL) (ret := some .long) hy rfl ?_
  intro p e s m args below meth c s₁ B hml hv
  obtain ⟨rfl, hP, hK⟩ := hv
  have hts := atoms_spec (ws := Cond.code y cc maxL (some .long) :: TT) B.pre
  have hl := lv_entry av (n := maxL) hlen
  rw [lg_entry_eq]
  generalize (lg_sl av ++ List.replicate (maxL - (lg_sl av).length) Slot.unset).toArray = ls at hl ⊢
  exact body p e s m below meth c _ _ ls B.exec B.bytes hml (fun w h => hts w (List.mem_cons_of_mem _ h)) (findClass_of_methodNamed B.named) hP hK hl
    (fun v pc ls hd hvr => W.lret B.exec B.bytes B.returns (fun t ht hW => ⟨v, rfl, hvr, ht⟩) (fun q h => nomatch h) hd B.notSynchronized)
theorem wr_ofJ {l : Launch} {y : MethodName} {cc : ByteArray} {maxL : Nat} {rm : Room} {av : List Value} {D : va_G} {ca : Nat → ClassId} {ws : va_W} {sz : Nat} {ρ : Type} {R : ρ} {val : ρ → Int64} {w1 : ρ → va_W} (hy : plainFor y = true) (hlen : (lg_sl av).length ≤ maxL)
    (body : ∀ (p : Program) (e : Env) (s : State) (m : MethodId) (below : List Frame) (meth : Method) (c : Code) (Q : State → Prop) (ar : Array Value) (ls : Array Slot),
      p.tables.exec = Jvm.exec → c.code = cc → c.maxLocals = maxL → (∀ w ∈ TT, w.before ar s = true) → s.vm.findClass y.cls = some m.cls → va_P D vwCl ws s.heap → va_K D vwCl (tyG ca) s → ∀ A : Nat → Prop, va_D A ws → (∀ q : Nat, s.heap.size ≤ q → A q) → lv_has ls maxL (lv_args 0 av) →
      (∀ (x : ρ) (H : Heap) (locs : List Loc) (pc : Nat) (ls : Array Slot), decode cc pc = .ok (.lreturn, 1) → some x = some R → va_P D vwCl (w1 x) H → va_D A (w1 x) → va_S A s.heap H locs → W p l e rm s m ar below meth c H locs 0 0 Q (F0 m pc ls [.long (val x)])) →
      W p l e rm s m ar below meth c s.heap [] 0 0 Q (F0 m 0 ls [])) :
    Met l y (Cond.code y cc maxL (some .long) :: TT) rm (wr_P av D ca ws sz) (va_Ql (fun r (_ : Unit) => r = val R) (wr_B D ws sz (w1 R)) (va_A ws sz)) 0 0 (va_A ws sz) := by
  refine va_MetF (cc := cc) (maxL := maxL) (ret := some .long) hy rfl ?_
  intro p e s m args below meth c s₁ B hml hv
  obtain ⟨rfl, hsz, hP, hK, hD0⟩ := hv
  subst hsz
  have hD := hD0.self (sz := s.heap.size)
  have hts := atoms_spec (ws := Cond.code y cc maxL (some .long) :: TT) B.pre
  have hl := lv_entry av (n := maxL) hlen
  rw [lg_entry_eq]
  generalize (lg_sl av ++ List.replicate (maxL - (lg_sl av).length) Slot.unset).toArray = ls at hl ⊢
  refine body p e s m below meth c _ _ ls B.exec B.bytes hml (fun w h => hts w (List.mem_cons_of_mem _ h)) (findClass_of_methodNamed B.named) hP hK _ hD (fun q h => Or.inr h) hl ?_
  intro x H locs pc ls hd hxR hP hD hS
  cases hxR
  exact W.lret B.exec B.bytes B.returns (fun t ht hW => ⟨⟨_, (), rfl, rfl, by rw [ht]; exact hP, hD⟩, hS.F ht⟩) hS.2.2 hd B.notSynchronized
theorem rd_ofV {l : Launch} {y : MethodName} {cc : ByteArray} {maxL : Nat} {rm : Room} {av : List Value} {D : va_G} {ca : Nat → ClassId} {ws : va_W}  (hy : plainFor y = true) (hlen : (lg_sl av).length ≤ maxL)
    (body : ∀ (p : Program) (e : Env) (s : State) (m : MethodId) (below : List Frame) (meth : Method) (c : Code) (Q : State → Prop) (ar : Array Value) (ls : Array Slot),
      p.tables.exec = Jvm.exec → c.code = cc → c.maxLocals = maxL → (∀ w ∈ TT, w.before ar s = true) → s.vm.findClass y.cls = some m.cls → va_P D vwCl ws s.heap → va_K D vwCl (tyG ca) s → lv_has ls maxL (lv_args 0 av) →
      (∀ (pc : Nat) (ls : Array Slot), decode cc pc = .ok (.return_, 1) → W p l e rm s m ar below meth c s.heap [] 0 0 Q (F0 m pc ls [])) →
      W p l e rm s m ar below meth c s.heap [] 0 0 Q (F0 m 0 ls [])) :
    Met l y (Cond.code y cc maxL (none) :: TT) rm (rd_P av D ca ws) (va_Sv (fun _ => True)) 0 0 (fun _ => False) := by
  refine va_MetF (cc := cc) (maxL := maxL) (ret := none) hy rfl ?_
  intro p e s m args below meth c s₁ B hml hv
  obtain ⟨rfl, hP, hK⟩ := hv
  have hts := atoms_spec (ws := Cond.code y cc maxL (none) :: TT) B.pre
  have hl := lv_entry av (n := maxL) hlen
  rw [lg_entry_eq]
  generalize (lg_sl av ++ List.replicate (maxL - (lg_sl av).length) Slot.unset).toArray = ls at hl ⊢
  exact body p e s m below meth c _ _ ls B.exec B.bytes hml (fun w h => hts w (List.mem_cons_of_mem _ h)) (findClass_of_methodNamed B.named) hP hK hl
    (fun pc ls hd => W.vret B.exec B.bytes B.returns (fun t ht hW => ⟨rfl, trivial, ht⟩) (fun q h => nomatch h) hd B.notSynchronized)
theorem wr_ofV {l : Launch} {y : MethodName} {cc : ByteArray} {maxL : Nat} {rm : Room} {av : List Value} {D : va_G} {ca : Nat → ClassId} {ws : va_W} {sz : Nat} {ρ : Type} {R : ρ} {w1 : ρ → va_W} (hy : plainFor y = true) (hlen : (lg_sl av).length ≤ maxL)
    (body : ∀ (p : Program) (e : Env) (s : State) (m : MethodId) (below : List Frame) (meth : Method) (c : Code) (Q : State → Prop) (ar : Array Value) (ls : Array Slot),
      p.tables.exec = Jvm.exec → c.code = cc → c.maxLocals = maxL → (∀ w ∈ TT, w.before ar s = true) → s.vm.findClass y.cls = some m.cls → va_P D vwCl ws s.heap → va_K D vwCl (tyG ca) s → ∀ A : Nat → Prop, va_D A ws → (∀ q : Nat, s.heap.size ≤ q → A q) → lv_has ls maxL (lv_args 0 av) →
      (∀ (x : ρ) (H : Heap) (locs : List Loc) (pc : Nat) (ls : Array Slot), decode cc pc = .ok (.return_, 1) → some x = some R → va_P D vwCl (w1 x) H → va_D A (w1 x) → va_S A s.heap H locs → W p l e rm s m ar below meth c H locs 0 0 Q (F0 m pc ls [])) →
      W p l e rm s m ar below meth c s.heap [] 0 0 Q (F0 m 0 ls [])) :
    Met l y (Cond.code y cc maxL (none) :: TT) rm (wr_P av D ca ws sz) (va_Qv (fun (_ : Unit) => True) (wr_B D ws sz (w1 R)) (va_A ws sz)) 0 0 (va_A ws sz) := by
  refine va_MetF (cc := cc) (maxL := maxL) (ret := none) hy rfl ?_
  intro p e s m args below meth c s₁ B hml hv
  obtain ⟨rfl, hsz, hP, hK, hD0⟩ := hv
  subst hsz
  have hD := hD0.self (sz := s.heap.size)
  have hts := atoms_spec (ws := Cond.code y cc maxL (none) :: TT) B.pre
  have hl := lv_entry av (n := maxL) hlen
  rw [lg_entry_eq]
  generalize (lg_sl av ++ List.replicate (maxL - (lg_sl av).length) Slot.unset).toArray = ls at hl ⊢
  refine body p e s m below meth c _ _ ls B.exec B.bytes hml (fun w h => hts w (List.mem_cons_of_mem _ h)) (findClass_of_methodNamed B.named) hP hK _ hD (fun q h => Or.inr h) hl ?_
  intro x H locs pc ls hd hxR hP hD hS
  cases hxR
  exact W.vret B.exec B.bytes B.returns (fun t ht hW => ⟨⟨(), rfl, trivial, by rw [ht]; exact hP, hD⟩, hS.F ht⟩) hS.2.2 hd B.notSynchronized
theorem rd_ofZ {l : Launch} {y : MethodName} {cc : ByteArray} {maxL : Nat} {rm : Room} {av : List Value} {D : va_G} {ca : Nat → ClassId} {ws : va_W} {r : Int32} (hy : plainFor y = true) (hlen : (lg_sl av).length ≤ maxL)
    (body : ∀ (p : Program) (e : Env) (s : State) (m : MethodId) (below : List Frame) (meth : Method) (c : Code) (Q : State → Prop) (ar : Array Value) (ls : Array Slot),
      p.tables.exec = Jvm.exec → c.code = cc → c.maxLocals = maxL → (∀ w ∈ TT, w.before ar s = true) → s.vm.findClass y.cls = some m.cls → va_P D vwCl ws s.heap → va_K D vwCl (tyG ca) s → lv_has ls maxL (lv_args 0 av) →
      (∀ (v : Int32) (pc : Nat) (ls : Array Slot), decode cc pc = .ok (.ireturn, 1) → narrow .boolean (.int v) = .int v → v = r → W p l e rm s m ar below meth c s.heap [] 0 0 Q (F0 m pc ls [.int v])) →
      W p l e rm s m ar below meth c s.heap [] 0 0 Q (F0 m 0 ls [])) :
    Met l y (Cond.code y cc maxL (some .boolean) :: TT) rm (rd_P av D ca ws) (vp_Si (fun x => x = r)) 0 0 (fun _ => False) := by
  refine va_MetF (cc := cc) (maxL := maxL) (ret := some .boolean) hy rfl ?_
  intro p e s m args below meth c s₁ B hml hv
  obtain ⟨rfl, hP, hK⟩ := hv
  have hts := atoms_spec (ws := Cond.code y cc maxL (some .boolean) :: TT) B.pre
  have hl := lv_entry av (n := maxL) hlen
  rw [lg_entry_eq]
  generalize (lg_sl av ++ List.replicate (maxL - (lg_sl av).length) Slot.unset).toArray = ls at hl ⊢
  exact body p e s m below meth c _ _ ls B.exec B.bytes hml (fun w h => hts w (List.mem_cons_of_mem _ h)) (findClass_of_methodNamed B.named) hP hK hl
    (fun v pc ls hd hz hvr => W.zret B.exec B.bytes B.returns hz (fun t ht hW => ⟨v, rfl, hvr, ht⟩) (fun q h => nomatch h) hd B.notSynchronized)
theorem wr_ofZ {l : Launch} {y : MethodName} {cc : ByteArray} {maxL : Nat} {rm : Room} {av : List Value} {D : va_G} {ca : Nat → ClassId} {ws : va_W} {sz : Nat} {ρ : Type} {R : ρ} {val : ρ → Int32} {w1 : ρ → va_W} (hy : plainFor y = true) (hlen : (lg_sl av).length ≤ maxL)
    (body : ∀ (p : Program) (e : Env) (s : State) (m : MethodId) (below : List Frame) (meth : Method) (c : Code) (Q : State → Prop) (ar : Array Value) (ls : Array Slot),
      p.tables.exec = Jvm.exec → c.code = cc → c.maxLocals = maxL → (∀ w ∈ TT, w.before ar s = true) → s.vm.findClass y.cls = some m.cls → va_P D vwCl ws s.heap → va_K D vwCl (tyG ca) s → ∀ A : Nat → Prop, va_D A ws → (∀ q : Nat, s.heap.size ≤ q → A q) → lv_has ls maxL (lv_args 0 av) →
      (∀ (x : ρ) (H : Heap) (locs : List Loc) (pc : Nat) (ls : Array Slot), decode cc pc = .ok (.ireturn, 1) → narrow .boolean (.int (val x)) = .int (val x) → some x = some R → va_P D vwCl (w1 x) H → va_D A (w1 x) → va_S A s.heap H locs → W p l e rm s m ar below meth c H locs 0 0 Q (F0 m pc ls [.int (val x)])) →
      W p l e rm s m ar below meth c s.heap [] 0 0 Q (F0 m 0 ls [])) :
    Met l y (Cond.code y cc maxL (some .boolean) :: TT) rm (wr_P av D ca ws sz) (va_Qi (fun r (_ : Unit) => r = val R) (wr_B D ws sz (w1 R)) (va_A ws sz)) 0 0 (va_A ws sz) := by
  refine va_MetF (cc := cc) (maxL := maxL) (ret := some .boolean) hy rfl ?_
  intro p e s m args below meth c s₁ B hml hv
  obtain ⟨rfl, hsz, hP, hK, hD0⟩ := hv
  subst hsz
  have hD := hD0.self (sz := s.heap.size)
  have hts := atoms_spec (ws := Cond.code y cc maxL (some .boolean) :: TT) B.pre
  have hl := lv_entry av (n := maxL) hlen
  rw [lg_entry_eq]
  generalize (lg_sl av ++ List.replicate (maxL - (lg_sl av).length) Slot.unset).toArray = ls at hl ⊢
  refine body p e s m below meth c _ _ ls B.exec B.bytes hml (fun w h => hts w (List.mem_cons_of_mem _ h)) (findClass_of_methodNamed B.named) hP hK _ hD (fun q h => Or.inr h) hl ?_
  intro x H locs pc ls hd hz hxR hP hD hS
  cases hxR
  exact W.zret B.exec B.bytes B.returns hz (fun t ht hW => ⟨⟨_, (), rfl, rfl, by rw [ht]; exact hP, hD⟩, hS.F ht⟩) hS.2.2 hd B.notSynchronized
theorem k_warmc {y : MethodName} {bytes : ByteArray} {maxL : Nat} {ret : Option FieldType} {args : Array Value} {s : State} (hts : ∀ w ∈ TT, w.before args s = true) (h : Cond.code y bytes maxL ret ∈ TT) : ∀ w ∈ Cond.code y bytes maxL ret :: TT, ∀ (a' : Array Value) (U : State), s.WarmedH U.vm → w.before a' U = true := fun w hw => by
  rcases List.mem_cons.mp hw with rfl | hw
  · exact k_warm hts _ h
  · exact k_warm hts _ hw
abbrev k_hd (y : MethodName) (n : Nat) : Prop := y.cls ≠ "java/lang/invoke/MethodHandle" ∧ y.cls ≠ "java/lang/invoke/VarHandle" ∧ (parseMethodDescriptor y.desc).map (fun d => d.parameters.length) = some n
abbrev k_cal (y : MethodName) (bytes : ByteArray) (maxL : Nat) (ret : Option FieldType) (n : Nat) : Prop := Cond.code y bytes maxL ret ∈ TT ∧ Cond.initialized y.cls ∈ TT ∧ k_hd y n
abbrev k_vir (y : MethodName) : Prop := Cond.instanceMethod y ∈ TT ∧ Cond.selects y.cls y y ∈ TT
theorem k_len {y : MethodName} {n : Nat} (hd : k_hd y n) : ∀ sig, parseMethodDescriptor y.desc = some sig → n = sig.parameters.length := fun sig h => by
  have h2 := hd.2.2
  rw [h] at h2
  exact (Option.some.inj h2).symm
theorem k_cB {R : Room} {s : State} {args : Array Value} {own : String} {index : Nat} {y : MethodName} {bytes : ByteArray} {maxL : Nat} {ret : Option FieldType} {rm : Room} {mc ms n : Nat} (hts : ∀ w ∈ TT, w.before args s = true) (kc : k_cal y bytes maxL ret n) (hk : Cond.methodLink own index y ∈ TT) (hrc : rm.cells = mc) (hrs : rm.slots = ms) (hR : rm.frames + 1 ≤ R.frames ∧ 8 + (maxL + 11) + rm.locals ≤ R.locals) : CallB R s args own index y bytes maxL ret (Cond.code y bytes maxL ret :: TT) rm mc ms n :=
  ⟨hrc, hrs, hR.1, hR.2, k_warmc hts kc.1, List.mem_cons_self, hts _ kc.1, hts _ kc.2.1, ⟨kc.2.2.1, kc.2.2.2.1⟩, k_len kc.2.2, hts _ hk⟩
theorem k_cN {R : Room} {s : State} {args : Array Value} {own host : String} {index : Nat} {y : MethodName} {bytes : ByteArray} {maxL : Nat} {ret : Option FieldType} {rm : Room} {mc ms n : Nat} (hts : ∀ w ∈ TT, w.before args s = true) (kc : k_cal y bytes maxL ret n) (hk : Cond.methodLinkNest own index y host ∈ TT) (hrc : rm.cells = mc) (hrs : rm.slots = ms) (hR : rm.frames + 1 ≤ R.frames ∧ 8 + (maxL + 11) + rm.locals ≤ R.locals) : va_CN R s args own index y host bytes maxL ret (Cond.code y bytes maxL ret :: TT) rm mc ms n :=
  ⟨⟨hrc, hrs, hR.1, hR.2, k_warmc hts kc.1, List.mem_cons_self⟩, hts _ kc.1, hts _ kc.2.1, ⟨kc.2.2.1, kc.2.2.2.1⟩, k_len kc.2.2, hts _ hk⟩
theorem k_rVI {p : Program} {l : Launch} {e : Env} {R : Room} {s : State} {m : MethodId} {ar : Array Value} {below : List Frame} {meth : Method} {c : Code} {H : Heap} {locs : List Loc} {cells slots : Nat} {Q : State → Prop} {y : MethodName} {bytes cc : ByteArray} {maxL nL n index : Nat} {ret : Option FieldType} {rm : Room} {own : String} {As rest st0 : List Value} {pc : Nat} {ls : Array Slot} {D : va_G} {ca : Nat → ClassId} {wc ws : va_W} {b ci : Nat} {fs : List Value} {q : vw_C} {r : Int32} (hx : p.tables.exec = Jvm.exec) (hb : c.code = cc) (hml : c.maxLocals = nL) (hown : s.vm.findClass own = some m.cls) (hts : ∀ w ∈ TT, w.before ar s = true)
    (hM : Met l y (Cond.code y bytes maxL ret :: TT) rm (rd_P (.ref b :: As) D ca wc) (vp_Si (fun x => x = r)) 0 0 (fun _ => False)) (kc : k_cal y bytes maxL ret n) (kv : k_vir y) (hk : Cond.methodLink own index y ∈ TT) (hR : rm.frames + 1 ≤ R.frames ∧ 8 + (maxL + 11) + rm.locals ≤ R.locals) (hrc : rm.cells = 0) (hrs : rm.slots = 0)
    (hP : va_P D vwCl ws H) (hK : va_K D vwCl (tyG ca) s) (is : List Nat) (hs : is.filterMap (fun i => ws[i]?) = wc) (q0 : Nat) (hq : wc[q0]? = some (b, .inr (ci, fs))) (hc : vwCl[ci]? = some q) (hqc : q.1 = y.cls) (hn : As.length = n) (hsz : ls.size = nL) (hw : (rest.map fun v => v.category).sum ≤ 8) (hst : st0 = As.reverse ++ .ref b :: rest) (hdg : decode cc pc = .ok (.invokevirtual index, 3)) (hf : cells ≤ R.cells ∧ slots ≤ R.slots)
    (kk : W p l e R s m ar below meth c H locs cells slots Q (F0 m (pc + 3) ls (.int r :: rest))) : W p l e R s m ar below meth c H locs cells slots Q (F0 m pc ls st0) :=
  vp_callSi (va_Run.run (va_runV (As := As) (rest := rest) ⟨hx, hb, hml, hown, hts⟩ hM ⟨k_cB hts kc hk hrc hrs hR, hts _ kv.1, hts _ kv.2⟩ ⟨rd_blind, (by obtain ⟨cellB, a1, a2, a3⟩ := va_recv hK (hP.sub is hs) hc hq; exact ⟨cellB, a1, a2, by rw [← hqc]; exact a3⟩), fun U hU hW => ⟨rfl, by rw [hU]; exact hP.sub is hs, va_K.moved hW.alike hK⟩⟩ rfl hn hsz hst (lv_room hw) hdg hf)) (fun x hx9 => by subst hx9; exact kk)
theorem k_wVI {p : Program} {l : Launch} {e : Env} {R : Room} {s : State} {m : MethodId} {ar : Array Value} {below : List Frame} {meth : Method} {c : Code} {H : Heap} {locs : List Loc} {cells slots : Nat} {Q : State → Prop} {y : MethodName} {bytes cc : ByteArray} {maxL nL n index : Nat} {ret : Option FieldType} {rm : Room} {own : String} {As rest st0 : List Value} {pc : Nat} {ls : Array Slot} {D : va_G} {ca : Nat → ClassId} {wc ws : va_W} {b ci : Nat} {fs : List Value} {q : vw_C} {r : Int32} {wr w1 w2 : va_W} {A : Nat → Prop} {H0 : Heap} (hx : p.tables.exec = Jvm.exec) (hb : c.code = cc) (hml : c.maxLocals = nL) (hown : s.vm.findClass own = some m.cls) (hts : ∀ w ∈ TT, w.before ar s = true)
    (hM : Met l y (Cond.code y bytes maxL ret :: TT) rm (wr_P (.ref b :: As) D ca wc H.size) (va_Qi (fun x (_ : Unit) => x = r) (wr_B D wc H.size w1) (va_A wc H.size)) 0 0 (va_A wc H.size)) (kc : k_cal y bytes maxL ret n) (kv : k_vir y) (hk : Cond.methodLink own index y ∈ TT) (hR : rm.frames + 1 ≤ R.frames ∧ 8 + (maxL + 11) + rm.locals ≤ R.locals) (hrc : rm.cells = 0) (hrs : rm.slots = 0)
    (hP : va_P D vwCl ws H) (hK : va_K D vwCl (tyG ca) s) (hD : va_D A ws) (hS : va_S A H0 H locs) (hA : ∀ q : Nat, H0.size ≤ q → A q)
    (isC isR isF : List Nat) (hC : isC.map (fun i => ws[i]?) = wc.map some) (hCn : va_nd isC = true) (hRr : isR.map (fun i => ws[i]?) = wr.map some) (hRn : va_nd isR = true) (hdis : ∀ i ∈ isR, i ∉ isC) (hF : isF.map (fun i => (wr ++ w1)[i]?) = w2.map some) (hFn : va_nd isF = true)
    (q0 : Nat) (hq : wc[q0]? = some (b, .inr (ci, fs))) (hc : vwCl[ci]? = some q) (hqc : q.1 = y.cls) (hn : As.length = n) (hsz : ls.size = nL) (hw : (rest.map fun v => v.category).sum ≤ 8) (hst : st0 = As.reverse ++ .ref b :: rest) (hdg : decode cc pc = .ok (.invokevirtual index, 3)) (hf : cells ≤ R.cells ∧ slots ≤ R.slots)
    (kk : ∀ (H1 : Heap) (locs1 : List Loc), va_P D vwCl w2 H1 → va_D A w2 → va_S A H0 H1 locs1 → W p l e R s m ar below meth c H1 locs1 cells slots Q (F0 m (pc + 3) ls (.int r :: rest))) : W p l e R s m ar below meth c H locs cells slots Q (F0 m pc ls st0) := by
  have hPc : va_P D vwCl wc H := hP.sub isC (k_fm hC)
  have hDc : va_D A wc := hD.sub isC hCn hC
  have hFc := va_free (wc := wc) hD hS hA isC hC
  refine va_calli (va_runV (As := As) (rest := rest) ⟨hx, hb, hml, hown, hts⟩ hM ⟨k_cB hts kc hk hrc hrs hR, hts _ kv.1, hts _ kv.2⟩ ⟨wr_blind, (by obtain ⟨cellB, a1, a2, a3⟩ := va_recv hK hPc hc hq; exact ⟨cellB, a1, a2, by rw [← hqc]; exact a3⟩), fun U hU hW => ⟨rfl, by rw [hU], by rw [hU]; exact hPc, va_K.moved hW.alike hK, hDc.weaken (fun _ _ _ _ => trivial)⟩⟩ rfl hn hsz hst (lv_room hw) hdg hf) hS (fun q _ h => hFc q h) hFc (fun x u t H1 locs ht hvm hw9 hB hz1 hk1 hS => ?_)
  subst hw9
  obtain ⟨hP1, hD1⟩ := hB
  rw [ht] at hP1
  obtain ⟨hP, hD⟩ := va_join (wr := wr) (w1 := w1) hP hD isC isR hC hRr hRn hdis hk1 hFc hP1 hD1
  exact kk H1 locs (hP.sub isF (k_fm hF)) (hD.sub isF hFn hF) hS
theorem k_rVJ {p : Program} {l : Launch} {e : Env} {R : Room} {s : State} {m : MethodId} {ar : Array Value} {below : List Frame} {meth : Method} {c : Code} {H : Heap} {locs : List Loc} {cells slots : Nat} {Q : State → Prop} {y : MethodName} {bytes cc : ByteArray} {maxL nL n index : Nat} {ret : Option FieldType} {rm : Room} {own : String} {As rest st0 : List Value} {pc : Nat} {ls : Array Slot} {D : va_G} {ca : Nat → ClassId} {wc ws : va_W} {b ci : Nat} {fs : List Value} {q : vw_C} {r : Int64} (hx : p.tables.exec = Jvm.exec) (hb : c.code = cc) (hml : c.maxLocals = nL) (hown : s.vm.findClass own = some m.cls) (hts : ∀ w ∈ TT, w.before ar s = true)
    (hM : Met l y (Cond.code y bytes maxL ret :: TT) rm (rd_P (.ref b :: As) D ca wc) (vp_Sl (fun x => x = r)) 0 0 (fun _ => False)) (kc : k_cal y bytes maxL ret n) (kv : k_vir y) (hk : Cond.methodLink own index y ∈ TT) (hR : rm.frames + 1 ≤ R.frames ∧ 8 + (maxL + 11) + rm.locals ≤ R.locals) (hrc : rm.cells = 0) (hrs : rm.slots = 0)
    (hP : va_P D vwCl ws H) (hK : va_K D vwCl (tyG ca) s) (is : List Nat) (hs : is.filterMap (fun i => ws[i]?) = wc) (q0 : Nat) (hq : wc[q0]? = some (b, .inr (ci, fs))) (hc : vwCl[ci]? = some q) (hqc : q.1 = y.cls) (hn : As.length = n) (hsz : ls.size = nL) (hw : (rest.map fun v => v.category).sum ≤ 8) (hst : st0 = As.reverse ++ .ref b :: rest) (hdg : decode cc pc = .ok (.invokevirtual index, 3)) (hf : cells ≤ R.cells ∧ slots ≤ R.slots)
    (kk : W p l e R s m ar below meth c H locs cells slots Q (F0 m (pc + 3) ls (.long r :: rest))) : W p l e R s m ar below meth c H locs cells slots Q (F0 m pc ls st0) :=
  vp_callSl (va_Run.run (va_runV (As := As) (rest := rest) ⟨hx, hb, hml, hown, hts⟩ hM ⟨k_cB hts kc hk hrc hrs hR, hts _ kv.1, hts _ kv.2⟩ ⟨rd_blind, (by obtain ⟨cellB, a1, a2, a3⟩ := va_recv hK (hP.sub is hs) hc hq; exact ⟨cellB, a1, a2, by rw [← hqc]; exact a3⟩), fun U hU hW => ⟨rfl, by rw [hU]; exact hP.sub is hs, va_K.moved hW.alike hK⟩⟩ rfl hn hsz hst (lv_room hw) hdg hf)) (fun x hx9 => by subst hx9; exact kk)
theorem k_wVJ {p : Program} {l : Launch} {e : Env} {R : Room} {s : State} {m : MethodId} {ar : Array Value} {below : List Frame} {meth : Method} {c : Code} {H : Heap} {locs : List Loc} {cells slots : Nat} {Q : State → Prop} {y : MethodName} {bytes cc : ByteArray} {maxL nL n index : Nat} {ret : Option FieldType} {rm : Room} {own : String} {As rest st0 : List Value} {pc : Nat} {ls : Array Slot} {D : va_G} {ca : Nat → ClassId} {wc ws : va_W} {b ci : Nat} {fs : List Value} {q : vw_C} {r : Int64} {wr w1 w2 : va_W} {A : Nat → Prop} {H0 : Heap} (hx : p.tables.exec = Jvm.exec) (hb : c.code = cc) (hml : c.maxLocals = nL) (hown : s.vm.findClass own = some m.cls) (hts : ∀ w ∈ TT, w.before ar s = true)
    (hM : Met l y (Cond.code y bytes maxL ret :: TT) rm (wr_P (.ref b :: As) D ca wc H.size) (va_Ql (fun x (_ : Unit) => x = r) (wr_B D wc H.size w1) (va_A wc H.size)) 0 0 (va_A wc H.size)) (kc : k_cal y bytes maxL ret n) (kv : k_vir y) (hk : Cond.methodLink own index y ∈ TT) (hR : rm.frames + 1 ≤ R.frames ∧ 8 + (maxL + 11) + rm.locals ≤ R.locals) (hrc : rm.cells = 0) (hrs : rm.slots = 0)
    (hP : va_P D vwCl ws H) (hK : va_K D vwCl (tyG ca) s) (hD : va_D A ws) (hS : va_S A H0 H locs) (hA : ∀ q : Nat, H0.size ≤ q → A q)
    (isC isR isF : List Nat) (hC : isC.map (fun i => ws[i]?) = wc.map some) (hCn : va_nd isC = true) (hRr : isR.map (fun i => ws[i]?) = wr.map some) (hRn : va_nd isR = true) (hdis : ∀ i ∈ isR, i ∉ isC) (hF : isF.map (fun i => (wr ++ w1)[i]?) = w2.map some) (hFn : va_nd isF = true)
    (q0 : Nat) (hq : wc[q0]? = some (b, .inr (ci, fs))) (hc : vwCl[ci]? = some q) (hqc : q.1 = y.cls) (hn : As.length = n) (hsz : ls.size = nL) (hw : (rest.map fun v => v.category).sum ≤ 8) (hst : st0 = As.reverse ++ .ref b :: rest) (hdg : decode cc pc = .ok (.invokevirtual index, 3)) (hf : cells ≤ R.cells ∧ slots ≤ R.slots)
    (kk : ∀ (H1 : Heap) (locs1 : List Loc), va_P D vwCl w2 H1 → va_D A w2 → va_S A H0 H1 locs1 → W p l e R s m ar below meth c H1 locs1 cells slots Q (F0 m (pc + 3) ls (.long r :: rest))) : W p l e R s m ar below meth c H locs cells slots Q (F0 m pc ls st0) := by
  have hPc : va_P D vwCl wc H := hP.sub isC (k_fm hC)
  have hDc : va_D A wc := hD.sub isC hCn hC
  have hFc := va_free (wc := wc) hD hS hA isC hC
  refine va_calll (va_runV (As := As) (rest := rest) ⟨hx, hb, hml, hown, hts⟩ hM ⟨k_cB hts kc hk hrc hrs hR, hts _ kv.1, hts _ kv.2⟩ ⟨wr_blind, (by obtain ⟨cellB, a1, a2, a3⟩ := va_recv hK hPc hc hq; exact ⟨cellB, a1, a2, by rw [← hqc]; exact a3⟩), fun U hU hW => ⟨rfl, by rw [hU], by rw [hU]; exact hPc, va_K.moved hW.alike hK, hDc.weaken (fun _ _ _ _ => trivial)⟩⟩ rfl hn hsz hst (lv_room hw) hdg hf) hS (fun q _ h => hFc q h) hFc (fun x u t H1 locs ht hvm hw9 hB hz1 hk1 hS => ?_)
  subst hw9
  obtain ⟨hP1, hD1⟩ := hB
  rw [ht] at hP1
  obtain ⟨hP, hD⟩ := va_join (wr := wr) (w1 := w1) hP hD isC isR hC hRr hRn hdis hk1 hFc hP1 hD1
  exact kk H1 locs (hP.sub isF (k_fm hF)) (hD.sub isF hFn hF) hS
theorem k_rVV {p : Program} {l : Launch} {e : Env} {R : Room} {s : State} {m : MethodId} {ar : Array Value} {below : List Frame} {meth : Method} {c : Code} {H : Heap} {locs : List Loc} {cells slots : Nat} {Q : State → Prop} {y : MethodName} {bytes cc : ByteArray} {maxL nL n index : Nat} {ret : Option FieldType} {rm : Room} {own : String} {As rest st0 : List Value} {pc : Nat} {ls : Array Slot} {D : va_G} {ca : Nat → ClassId} {wc ws : va_W} {b ci : Nat} {fs : List Value} {q : vw_C} (hx : p.tables.exec = Jvm.exec) (hb : c.code = cc) (hml : c.maxLocals = nL) (hown : s.vm.findClass own = some m.cls) (hts : ∀ w ∈ TT, w.before ar s = true)
    (hM : Met l y (Cond.code y bytes maxL ret :: TT) rm (rd_P (.ref b :: As) D ca wc) (va_Sv (fun _ => True)) 0 0 (fun _ => False)) (kc : k_cal y bytes maxL ret n) (kv : k_vir y) (hk : Cond.methodLink own index y ∈ TT) (hR : rm.frames + 1 ≤ R.frames ∧ 8 + (maxL + 11) + rm.locals ≤ R.locals) (hrc : rm.cells = 0) (hrs : rm.slots = 0)
    (hP : va_P D vwCl ws H) (hK : va_K D vwCl (tyG ca) s) (is : List Nat) (hs : is.filterMap (fun i => ws[i]?) = wc) (q0 : Nat) (hq : wc[q0]? = some (b, .inr (ci, fs))) (hc : vwCl[ci]? = some q) (hqc : q.1 = y.cls) (hn : As.length = n) (hsz : ls.size = nL) (hw : (rest.map fun v => v.category).sum ≤ 8) (hst : st0 = As.reverse ++ .ref b :: rest) (hdg : decode cc pc = .ok (.invokevirtual index, 3)) (hf : cells ≤ R.cells ∧ slots ≤ R.slots)
    (kk : W p l e R s m ar below meth c H locs cells slots Q (F0 m (pc + 3) ls rest)) : W p l e R s m ar below meth c H locs cells slots Q (F0 m pc ls st0) :=
  va_csv (va_Run.run (va_runV (As := As) (rest := rest) ⟨hx, hb, hml, hown, hts⟩ hM ⟨k_cB hts kc hk hrc hrs hR, hts _ kv.1, hts _ kv.2⟩ ⟨rd_blind, (by obtain ⟨cellB, a1, a2, a3⟩ := va_recv hK (hP.sub is hs) hc hq; exact ⟨cellB, a1, a2, by rw [← hqc]; exact a3⟩), fun U hU hW => ⟨rfl, by rw [hU]; exact hP.sub is hs, va_K.moved hW.alike hK⟩⟩ rfl hn hsz hst (lv_room hw) hdg hf)) (fun _ => kk)
theorem k_wVV {p : Program} {l : Launch} {e : Env} {R : Room} {s : State} {m : MethodId} {ar : Array Value} {below : List Frame} {meth : Method} {c : Code} {H : Heap} {locs : List Loc} {cells slots : Nat} {Q : State → Prop} {y : MethodName} {bytes cc : ByteArray} {maxL nL n index : Nat} {ret : Option FieldType} {rm : Room} {own : String} {As rest st0 : List Value} {pc : Nat} {ls : Array Slot} {D : va_G} {ca : Nat → ClassId} {wc ws : va_W} {b ci : Nat} {fs : List Value} {q : vw_C} {wr w1 w2 : va_W} {A : Nat → Prop} {H0 : Heap} (hx : p.tables.exec = Jvm.exec) (hb : c.code = cc) (hml : c.maxLocals = nL) (hown : s.vm.findClass own = some m.cls) (hts : ∀ w ∈ TT, w.before ar s = true)
    (hM : Met l y (Cond.code y bytes maxL ret :: TT) rm (wr_P (.ref b :: As) D ca wc H.size) (va_Qv (fun (_ : Unit) => True) (wr_B D wc H.size w1) (va_A wc H.size)) 0 0 (va_A wc H.size)) (kc : k_cal y bytes maxL ret n) (kv : k_vir y) (hk : Cond.methodLink own index y ∈ TT) (hR : rm.frames + 1 ≤ R.frames ∧ 8 + (maxL + 11) + rm.locals ≤ R.locals) (hrc : rm.cells = 0) (hrs : rm.slots = 0)
    (hP : va_P D vwCl ws H) (hK : va_K D vwCl (tyG ca) s) (hD : va_D A ws) (hS : va_S A H0 H locs) (hA : ∀ q : Nat, H0.size ≤ q → A q)
    (isC isR isF : List Nat) (hC : isC.map (fun i => ws[i]?) = wc.map some) (hCn : va_nd isC = true) (hRr : isR.map (fun i => ws[i]?) = wr.map some) (hRn : va_nd isR = true) (hdis : ∀ i ∈ isR, i ∉ isC) (hF : isF.map (fun i => (wr ++ w1)[i]?) = w2.map some) (hFn : va_nd isF = true)
    (q0 : Nat) (hq : wc[q0]? = some (b, .inr (ci, fs))) (hc : vwCl[ci]? = some q) (hqc : q.1 = y.cls) (hn : As.length = n) (hsz : ls.size = nL) (hw : (rest.map fun v => v.category).sum ≤ 8) (hst : st0 = As.reverse ++ .ref b :: rest) (hdg : decode cc pc = .ok (.invokevirtual index, 3)) (hf : cells ≤ R.cells ∧ slots ≤ R.slots)
    (kk : ∀ (H1 : Heap) (locs1 : List Loc), va_P D vwCl w2 H1 → va_D A w2 → va_S A H0 H1 locs1 → W p l e R s m ar below meth c H1 locs1 cells slots Q (F0 m (pc + 3) ls rest)) : W p l e R s m ar below meth c H locs cells slots Q (F0 m pc ls st0) := by
  have hPc : va_P D vwCl wc H := hP.sub isC (k_fm hC)
  have hDc : va_D A wc := hD.sub isC hCn hC
  have hFc := va_free (wc := wc) hD hS hA isC hC
  refine va_callv (va_runV (As := As) (rest := rest) ⟨hx, hb, hml, hown, hts⟩ hM ⟨k_cB hts kc hk hrc hrs hR, hts _ kv.1, hts _ kv.2⟩ ⟨wr_blind, (by obtain ⟨cellB, a1, a2, a3⟩ := va_recv hK hPc hc hq; exact ⟨cellB, a1, a2, by rw [← hqc]; exact a3⟩), fun U hU hW => ⟨rfl, by rw [hU], by rw [hU]; exact hPc, va_K.moved hW.alike hK, hDc.weaken (fun _ _ _ _ => trivial)⟩⟩ rfl hn hsz hst (lv_room hw) hdg hf) hS (fun q _ h => hFc q h) hFc (fun u t H1 locs ht hvm hw9 hB hz1 hk1 hS => ?_)
  obtain ⟨hP1, hD1⟩ := hB
  rw [ht] at hP1
  obtain ⟨hP, hD⟩ := va_join (wr := wr) (w1 := w1) hP hD isC isR hC hRr hRn hdis hk1 hFc hP1 hD1
  exact kk H1 locs (hP.sub isF (k_fm hF)) (hD.sub isF hFn hF) hS
theorem k_rSI {p : Program} {l : Launch} {e : Env} {R : Room} {s : State} {m : MethodId} {ar : Array Value} {below : List Frame} {meth : Method} {c : Code} {H : Heap} {locs : List Loc} {cells slots : Nat} {Q : State → Prop} {y : MethodName} {bytes cc : ByteArray} {maxL nL n index : Nat} {ret : Option FieldType} {rm : Room} {own : String} {As rest st0 : List Value} {pc : Nat} {ls : Array Slot} {D : va_G} {ca : Nat → ClassId} {wc ws : va_W} {r : Int32} (hx : p.tables.exec = Jvm.exec) (hb : c.code = cc) (hml : c.maxLocals = nL) (hown : s.vm.findClass own = some m.cls) (hts : ∀ w ∈ TT, w.before ar s = true)
    (hM : Met l y (Cond.code y bytes maxL ret :: TT) rm (rd_P As D ca wc) (vp_Si (fun x => x = r)) 0 0 (fun _ => False)) (kc : k_cal y bytes maxL ret n) (kv : Cond.static y ∈ TT) (hk : Cond.methodLink own index y ∈ TT) (hR : rm.frames + 1 ≤ R.frames ∧ 8 + (maxL + 11) + rm.locals ≤ R.locals) (hrc : rm.cells = 0) (hrs : rm.slots = 0)
    (hP : va_P D vwCl ws H) (hK : va_K D vwCl (tyG ca) s) (is : List Nat) (hs : is.filterMap (fun i => ws[i]?) = wc) (hn : As.length = n) (hsz : ls.size = nL) (hw : (rest.map fun v => v.category).sum ≤ 8) (hst : st0 = As.reverse ++ rest) (hdg : decode cc pc = .ok (.invokestatic index, 3)) (hf : cells ≤ R.cells ∧ slots ≤ R.slots)
    (kk : W p l e R s m ar below meth c H locs cells slots Q (F0 m (pc + 3) ls (.int r :: rest))) : W p l e R s m ar below meth c H locs cells slots Q (F0 m pc ls st0) :=
  vp_callSi (va_Run.run (va_runS (As := As) (rest := rest) ⟨hx, hb, hml, hown, hts⟩ hM ⟨k_cB hts kc hk hrc hrs hR, hts _ kv⟩ ⟨rd_blind, fun U hU hW => ⟨rfl, by rw [hU]; exact hP.sub is hs, va_K.moved hW.alike hK⟩⟩ rfl hn hsz hst (lv_room hw) hdg hf)) (fun x hx9 => by subst hx9; exact kk)
theorem k_wSI {p : Program} {l : Launch} {e : Env} {R : Room} {s : State} {m : MethodId} {ar : Array Value} {below : List Frame} {meth : Method} {c : Code} {H : Heap} {locs : List Loc} {cells slots : Nat} {Q : State → Prop} {y : MethodName} {bytes cc : ByteArray} {maxL nL n index : Nat} {ret : Option FieldType} {rm : Room} {own : String} {As rest st0 : List Value} {pc : Nat} {ls : Array Slot} {D : va_G} {ca : Nat → ClassId} {wc ws : va_W} {r : Int32} {wr w1 w2 : va_W} {A : Nat → Prop} {H0 : Heap} (hx : p.tables.exec = Jvm.exec) (hb : c.code = cc) (hml : c.maxLocals = nL) (hown : s.vm.findClass own = some m.cls) (hts : ∀ w ∈ TT, w.before ar s = true)
    (hM : Met l y (Cond.code y bytes maxL ret :: TT) rm (wr_P As D ca wc H.size) (va_Qi (fun x (_ : Unit) => x = r) (wr_B D wc H.size w1) (va_A wc H.size)) 0 0 (va_A wc H.size)) (kc : k_cal y bytes maxL ret n) (kv : Cond.static y ∈ TT) (hk : Cond.methodLink own index y ∈ TT) (hR : rm.frames + 1 ≤ R.frames ∧ 8 + (maxL + 11) + rm.locals ≤ R.locals) (hrc : rm.cells = 0) (hrs : rm.slots = 0)
    (hP : va_P D vwCl ws H) (hK : va_K D vwCl (tyG ca) s) (hD : va_D A ws) (hS : va_S A H0 H locs) (hA : ∀ q : Nat, H0.size ≤ q → A q)
    (isC isR isF : List Nat) (hC : isC.map (fun i => ws[i]?) = wc.map some) (hCn : va_nd isC = true) (hRr : isR.map (fun i => ws[i]?) = wr.map some) (hRn : va_nd isR = true) (hdis : ∀ i ∈ isR, i ∉ isC) (hF : isF.map (fun i => (wr ++ w1)[i]?) = w2.map some) (hFn : va_nd isF = true)
    (hn : As.length = n) (hsz : ls.size = nL) (hw : (rest.map fun v => v.category).sum ≤ 8) (hst : st0 = As.reverse ++ rest) (hdg : decode cc pc = .ok (.invokestatic index, 3)) (hf : cells ≤ R.cells ∧ slots ≤ R.slots)
    (kk : ∀ (H1 : Heap) (locs1 : List Loc), va_P D vwCl w2 H1 → va_D A w2 → va_S A H0 H1 locs1 → W p l e R s m ar below meth c H1 locs1 cells slots Q (F0 m (pc + 3) ls (.int r :: rest))) : W p l e R s m ar below meth c H locs cells slots Q (F0 m pc ls st0) := by
  have hPc : va_P D vwCl wc H := hP.sub isC (k_fm hC)
  have hDc : va_D A wc := hD.sub isC hCn hC
  have hFc := va_free (wc := wc) hD hS hA isC hC
  refine va_calli (va_runS (As := As) (rest := rest) ⟨hx, hb, hml, hown, hts⟩ hM ⟨k_cB hts kc hk hrc hrs hR, hts _ kv⟩ ⟨wr_blind, fun U hU hW => ⟨rfl, by rw [hU], by rw [hU]; exact hPc, va_K.moved hW.alike hK, hDc.weaken (fun _ _ _ _ => trivial)⟩⟩ rfl hn hsz hst (lv_room hw) hdg hf) hS (fun q _ h => hFc q h) hFc (fun x u t H1 locs ht hvm hw9 hB hz1 hk1 hS => ?_)
  subst hw9
  obtain ⟨hP1, hD1⟩ := hB
  rw [ht] at hP1
  obtain ⟨hP, hD⟩ := va_join (wr := wr) (w1 := w1) hP hD isC isR hC hRr hRn hdis hk1 hFc hP1 hD1
  exact kk H1 locs (hP.sub isF (k_fm hF)) (hD.sub isF hFn hF) hS
theorem k_rSJ {p : Program} {l : Launch} {e : Env} {R : Room} {s : State} {m : MethodId} {ar : Array Value} {below : List Frame} {meth : Method} {c : Code} {H : Heap} {locs : List Loc} {cells slots : Nat} {Q : State → Prop} {y : MethodName} {bytes cc : ByteArray} {maxL nL n index : Nat} {ret : Option FieldType} {rm : Room} {own : String} {As rest st0 : List Value} {pc : Nat} {ls : Array Slot} {D : va_G} {ca : Nat → ClassId} {wc ws : va_W} {r : Int64} (hx : p.tables.exec = Jvm.exec) (hb : c.code = cc) (hml : c.maxLocals = nL) (hown : s.vm.findClass own = some m.cls) (hts : ∀ w ∈ TT, w.before ar s = true)
    (hM : Met l y (Cond.code y bytes maxL ret :: TT) rm (rd_P As D ca wc) (vp_Sl (fun x => x = r)) 0 0 (fun _ => False)) (kc : k_cal y bytes maxL ret n) (kv : Cond.static y ∈ TT) (hk : Cond.methodLink own index y ∈ TT) (hR : rm.frames + 1 ≤ R.frames ∧ 8 + (maxL + 11) + rm.locals ≤ R.locals) (hrc : rm.cells = 0) (hrs : rm.slots = 0)
    (hP : va_P D vwCl ws H) (hK : va_K D vwCl (tyG ca) s) (is : List Nat) (hs : is.filterMap (fun i => ws[i]?) = wc) (hn : As.length = n) (hsz : ls.size = nL) (hw : (rest.map fun v => v.category).sum ≤ 8) (hst : st0 = As.reverse ++ rest) (hdg : decode cc pc = .ok (.invokestatic index, 3)) (hf : cells ≤ R.cells ∧ slots ≤ R.slots)
    (kk : W p l e R s m ar below meth c H locs cells slots Q (F0 m (pc + 3) ls (.long r :: rest))) : W p l e R s m ar below meth c H locs cells slots Q (F0 m pc ls st0) :=
  vp_callSl (va_Run.run (va_runS (As := As) (rest := rest) ⟨hx, hb, hml, hown, hts⟩ hM ⟨k_cB hts kc hk hrc hrs hR, hts _ kv⟩ ⟨rd_blind, fun U hU hW => ⟨rfl, by rw [hU]; exact hP.sub is hs, va_K.moved hW.alike hK⟩⟩ rfl hn hsz hst (lv_room hw) hdg hf)) (fun x hx9 => by subst hx9; exact kk)
theorem k_wSJ {p : Program} {l : Launch} {e : Env} {R : Room} {s : State} {m : MethodId} {ar : Array Value} {below : List Frame} {meth : Method} {c : Code} {H : Heap} {locs : List Loc} {cells slots : Nat} {Q : State → Prop} {y : MethodName} {bytes cc : ByteArray} {maxL nL n index : Nat} {ret : Option FieldType} {rm : Room} {own : String} {As rest st0 : List Value} {pc : Nat} {ls : Array Slot} {D : va_G} {ca : Nat → ClassId} {wc ws : va_W} {r : Int64} {wr w1 w2 : va_W} {A : Nat → Prop} {H0 : Heap} (hx : p.tables.exec = Jvm.exec) (hb : c.code = cc) (hml : c.maxLocals = nL) (hown : s.vm.findClass own = some m.cls) (hts : ∀ w ∈ TT, w.before ar s = true)
    (hM : Met l y (Cond.code y bytes maxL ret :: TT) rm (wr_P As D ca wc H.size) (va_Ql (fun x (_ : Unit) => x = r) (wr_B D wc H.size w1) (va_A wc H.size)) 0 0 (va_A wc H.size)) (kc : k_cal y bytes maxL ret n) (kv : Cond.static y ∈ TT) (hk : Cond.methodLink own index y ∈ TT) (hR : rm.frames + 1 ≤ R.frames ∧ 8 + (maxL + 11) + rm.locals ≤ R.locals) (hrc : rm.cells = 0) (hrs : rm.slots = 0)
    (hP : va_P D vwCl ws H) (hK : va_K D vwCl (tyG ca) s) (hD : va_D A ws) (hS : va_S A H0 H locs) (hA : ∀ q : Nat, H0.size ≤ q → A q)
    (isC isR isF : List Nat) (hC : isC.map (fun i => ws[i]?) = wc.map some) (hCn : va_nd isC = true) (hRr : isR.map (fun i => ws[i]?) = wr.map some) (hRn : va_nd isR = true) (hdis : ∀ i ∈ isR, i ∉ isC) (hF : isF.map (fun i => (wr ++ w1)[i]?) = w2.map some) (hFn : va_nd isF = true)
    (hn : As.length = n) (hsz : ls.size = nL) (hw : (rest.map fun v => v.category).sum ≤ 8) (hst : st0 = As.reverse ++ rest) (hdg : decode cc pc = .ok (.invokestatic index, 3)) (hf : cells ≤ R.cells ∧ slots ≤ R.slots)
    (kk : ∀ (H1 : Heap) (locs1 : List Loc), va_P D vwCl w2 H1 → va_D A w2 → va_S A H0 H1 locs1 → W p l e R s m ar below meth c H1 locs1 cells slots Q (F0 m (pc + 3) ls (.long r :: rest))) : W p l e R s m ar below meth c H locs cells slots Q (F0 m pc ls st0) := by
  have hPc : va_P D vwCl wc H := hP.sub isC (k_fm hC)
  have hDc : va_D A wc := hD.sub isC hCn hC
  have hFc := va_free (wc := wc) hD hS hA isC hC
  refine va_calll (va_runS (As := As) (rest := rest) ⟨hx, hb, hml, hown, hts⟩ hM ⟨k_cB hts kc hk hrc hrs hR, hts _ kv⟩ ⟨wr_blind, fun U hU hW => ⟨rfl, by rw [hU], by rw [hU]; exact hPc, va_K.moved hW.alike hK, hDc.weaken (fun _ _ _ _ => trivial)⟩⟩ rfl hn hsz hst (lv_room hw) hdg hf) hS (fun q _ h => hFc q h) hFc (fun x u t H1 locs ht hvm hw9 hB hz1 hk1 hS => ?_)
  subst hw9
  obtain ⟨hP1, hD1⟩ := hB
  rw [ht] at hP1
  obtain ⟨hP, hD⟩ := va_join (wr := wr) (w1 := w1) hP hD isC isR hC hRr hRn hdis hk1 hFc hP1 hD1
  exact kk H1 locs (hP.sub isF (k_fm hF)) (hD.sub isF hFn hF) hS
theorem k_rSV {p : Program} {l : Launch} {e : Env} {R : Room} {s : State} {m : MethodId} {ar : Array Value} {below : List Frame} {meth : Method} {c : Code} {H : Heap} {locs : List Loc} {cells slots : Nat} {Q : State → Prop} {y : MethodName} {bytes cc : ByteArray} {maxL nL n index : Nat} {ret : Option FieldType} {rm : Room} {own : String} {As rest st0 : List Value} {pc : Nat} {ls : Array Slot} {D : va_G} {ca : Nat → ClassId} {wc ws : va_W} (hx : p.tables.exec = Jvm.exec) (hb : c.code = cc) (hml : c.maxLocals = nL) (hown : s.vm.findClass own = some m.cls) (hts : ∀ w ∈ TT, w.before ar s = true)
    (hM : Met l y (Cond.code y bytes maxL ret :: TT) rm (rd_P As D ca wc) (va_Sv (fun _ => True)) 0 0 (fun _ => False)) (kc : k_cal y bytes maxL ret n) (kv : Cond.static y ∈ TT) (hk : Cond.methodLink own index y ∈ TT) (hR : rm.frames + 1 ≤ R.frames ∧ 8 + (maxL + 11) + rm.locals ≤ R.locals) (hrc : rm.cells = 0) (hrs : rm.slots = 0)
    (hP : va_P D vwCl ws H) (hK : va_K D vwCl (tyG ca) s) (is : List Nat) (hs : is.filterMap (fun i => ws[i]?) = wc) (hn : As.length = n) (hsz : ls.size = nL) (hw : (rest.map fun v => v.category).sum ≤ 8) (hst : st0 = As.reverse ++ rest) (hdg : decode cc pc = .ok (.invokestatic index, 3)) (hf : cells ≤ R.cells ∧ slots ≤ R.slots)
    (kk : W p l e R s m ar below meth c H locs cells slots Q (F0 m (pc + 3) ls rest)) : W p l e R s m ar below meth c H locs cells slots Q (F0 m pc ls st0) :=
  va_csv (va_Run.run (va_runS (As := As) (rest := rest) ⟨hx, hb, hml, hown, hts⟩ hM ⟨k_cB hts kc hk hrc hrs hR, hts _ kv⟩ ⟨rd_blind, fun U hU hW => ⟨rfl, by rw [hU]; exact hP.sub is hs, va_K.moved hW.alike hK⟩⟩ rfl hn hsz hst (lv_room hw) hdg hf)) (fun _ => kk)
theorem k_wSV {p : Program} {l : Launch} {e : Env} {R : Room} {s : State} {m : MethodId} {ar : Array Value} {below : List Frame} {meth : Method} {c : Code} {H : Heap} {locs : List Loc} {cells slots : Nat} {Q : State → Prop} {y : MethodName} {bytes cc : ByteArray} {maxL nL n index : Nat} {ret : Option FieldType} {rm : Room} {own : String} {As rest st0 : List Value} {pc : Nat} {ls : Array Slot} {D : va_G} {ca : Nat → ClassId} {wc ws : va_W} {wr w1 w2 : va_W} {A : Nat → Prop} {H0 : Heap} (hx : p.tables.exec = Jvm.exec) (hb : c.code = cc) (hml : c.maxLocals = nL) (hown : s.vm.findClass own = some m.cls) (hts : ∀ w ∈ TT, w.before ar s = true)
    (hM : Met l y (Cond.code y bytes maxL ret :: TT) rm (wr_P As D ca wc H.size) (va_Qv (fun (_ : Unit) => True) (wr_B D wc H.size w1) (va_A wc H.size)) 0 0 (va_A wc H.size)) (kc : k_cal y bytes maxL ret n) (kv : Cond.static y ∈ TT) (hk : Cond.methodLink own index y ∈ TT) (hR : rm.frames + 1 ≤ R.frames ∧ 8 + (maxL + 11) + rm.locals ≤ R.locals) (hrc : rm.cells = 0) (hrs : rm.slots = 0)
    (hP : va_P D vwCl ws H) (hK : va_K D vwCl (tyG ca) s) (hD : va_D A ws) (hS : va_S A H0 H locs) (hA : ∀ q : Nat, H0.size ≤ q → A q)
    (isC isR isF : List Nat) (hC : isC.map (fun i => ws[i]?) = wc.map some) (hCn : va_nd isC = true) (hRr : isR.map (fun i => ws[i]?) = wr.map some) (hRn : va_nd isR = true) (hdis : ∀ i ∈ isR, i ∉ isC) (hF : isF.map (fun i => (wr ++ w1)[i]?) = w2.map some) (hFn : va_nd isF = true)
    (hn : As.length = n) (hsz : ls.size = nL) (hw : (rest.map fun v => v.category).sum ≤ 8) (hst : st0 = As.reverse ++ rest) (hdg : decode cc pc = .ok (.invokestatic index, 3)) (hf : cells ≤ R.cells ∧ slots ≤ R.slots)
    (kk : ∀ (H1 : Heap) (locs1 : List Loc), va_P D vwCl w2 H1 → va_D A w2 → va_S A H0 H1 locs1 → W p l e R s m ar below meth c H1 locs1 cells slots Q (F0 m (pc + 3) ls rest)) : W p l e R s m ar below meth c H locs cells slots Q (F0 m pc ls st0) := by
  have hPc : va_P D vwCl wc H := hP.sub isC (k_fm hC)
  have hDc : va_D A wc := hD.sub isC hCn hC
  have hFc := va_free (wc := wc) hD hS hA isC hC
  refine va_callv (va_runS (As := As) (rest := rest) ⟨hx, hb, hml, hown, hts⟩ hM ⟨k_cB hts kc hk hrc hrs hR, hts _ kv⟩ ⟨wr_blind, fun U hU hW => ⟨rfl, by rw [hU], by rw [hU]; exact hPc, va_K.moved hW.alike hK, hDc.weaken (fun _ _ _ _ => trivial)⟩⟩ rfl hn hsz hst (lv_room hw) hdg hf) hS (fun q _ h => hFc q h) hFc (fun u t H1 locs ht hvm hw9 hB hz1 hk1 hS => ?_)
  obtain ⟨hP1, hD1⟩ := hB
  rw [ht] at hP1
  obtain ⟨hP, hD⟩ := va_join (wr := wr) (w1 := w1) hP hD isC isR hC hRr hRn hdis hk1 hFc hP1 hD1
  exact kk H1 locs (hP.sub isF (k_fm hF)) (hD.sub isF hFn hF) hS
theorem k_rVNI {p : Program} {l : Launch} {e : Env} {R : Room} {s : State} {m : MethodId} {ar : Array Value} {below : List Frame} {meth : Method} {c : Code} {H : Heap} {locs : List Loc} {cells slots : Nat} {Q : State → Prop} {y : MethodName} {bytes cc : ByteArray} {maxL nL n index : Nat} {ret : Option FieldType} {rm : Room} {own : String} {As rest st0 : List Value} {pc : Nat} {ls : Array Slot} {D : va_G} {ca : Nat → ClassId} {wc ws : va_W} {host : String} {b ci : Nat} {fs : List Value} {q : vw_C} {r : Int32} (hx : p.tables.exec = Jvm.exec) (hb : c.code = cc) (hml : c.maxLocals = nL) (hown : s.vm.findClass own = some m.cls) (hts : ∀ w ∈ TT, w.before ar s = true)
    (hM : Met l y (Cond.code y bytes maxL ret :: TT) rm (rd_P (.ref b :: As) D ca wc) (vp_Si (fun x => x = r)) 0 0 (fun _ => False)) (kc : k_cal y bytes maxL ret n) (kv : k_vir y) (hk : Cond.methodLinkNest own index y host ∈ TT) (hR : rm.frames + 1 ≤ R.frames ∧ 8 + (maxL + 11) + rm.locals ≤ R.locals) (hrc : rm.cells = 0) (hrs : rm.slots = 0)
    (hP : va_P D vwCl ws H) (hK : va_K D vwCl (tyG ca) s) (is : List Nat) (hs : is.filterMap (fun i => ws[i]?) = wc) (q0 : Nat) (hq : wc[q0]? = some (b, .inr (ci, fs))) (hc : vwCl[ci]? = some q) (hqc : q.1 = y.cls) (hn : As.length = n) (hsz : ls.size = nL) (hw : (rest.map fun v => v.category).sum ≤ 8) (hst : st0 = As.reverse ++ .ref b :: rest) (hdg : decode cc pc = .ok (.invokevirtual index, 3)) (hf : cells ≤ R.cells ∧ slots ≤ R.slots)
    (kk : W p l e R s m ar below meth c H locs cells slots Q (F0 m (pc + 3) ls (.int r :: rest))) : W p l e R s m ar below meth c H locs cells slots Q (F0 m pc ls st0) :=
  vp_callSi (va_Run.run (va_runVN (As := As) (rest := rest) ⟨hx, hb, hml, hown, hts⟩ hM ⟨k_cN hts kc hk hrc hrs hR, hts _ kv.1, hts _ kv.2⟩ ⟨rd_blind, (by obtain ⟨cellB, a1, a2, a3⟩ := va_recv hK (hP.sub is hs) hc hq; exact ⟨cellB, a1, a2, by rw [← hqc]; exact a3⟩), fun U hU hW => ⟨rfl, by rw [hU]; exact hP.sub is hs, va_K.moved hW.alike hK⟩⟩ rfl hn hsz hst (lv_room hw) hdg hf)) (fun x hx9 => by subst hx9; exact kk)
theorem k_wVNI {p : Program} {l : Launch} {e : Env} {R : Room} {s : State} {m : MethodId} {ar : Array Value} {below : List Frame} {meth : Method} {c : Code} {H : Heap} {locs : List Loc} {cells slots : Nat} {Q : State → Prop} {y : MethodName} {bytes cc : ByteArray} {maxL nL n index : Nat} {ret : Option FieldType} {rm : Room} {own : String} {As rest st0 : List Value} {pc : Nat} {ls : Array Slot} {D : va_G} {ca : Nat → ClassId} {wc ws : va_W} {host : String} {b ci : Nat} {fs : List Value} {q : vw_C} {r : Int32} {wr w1 w2 : va_W} {A : Nat → Prop} {H0 : Heap} (hx : p.tables.exec = Jvm.exec) (hb : c.code = cc) (hml : c.maxLocals = nL) (hown : s.vm.findClass own = some m.cls) (hts : ∀ w ∈ TT, w.before ar s = true)
    (hM : Met l y (Cond.code y bytes maxL ret :: TT) rm (wr_P (.ref b :: As) D ca wc H.size) (va_Qi (fun x (_ : Unit) => x = r) (wr_B D wc H.size w1) (va_A wc H.size)) 0 0 (va_A wc H.size)) (kc : k_cal y bytes maxL ret n) (kv : k_vir y) (hk : Cond.methodLinkNest own index y host ∈ TT) (hR : rm.frames + 1 ≤ R.frames ∧ 8 + (maxL + 11) + rm.locals ≤ R.locals) (hrc : rm.cells = 0) (hrs : rm.slots = 0)
    (hP : va_P D vwCl ws H) (hK : va_K D vwCl (tyG ca) s) (hD : va_D A ws) (hS : va_S A H0 H locs) (hA : ∀ q : Nat, H0.size ≤ q → A q)
    (isC isR isF : List Nat) (hC : isC.map (fun i => ws[i]?) = wc.map some) (hCn : va_nd isC = true) (hRr : isR.map (fun i => ws[i]?) = wr.map some) (hRn : va_nd isR = true) (hdis : ∀ i ∈ isR, i ∉ isC) (hF : isF.map (fun i => (wr ++ w1)[i]?) = w2.map some) (hFn : va_nd isF = true)
    (q0 : Nat) (hq : wc[q0]? = some (b, .inr (ci, fs))) (hc : vwCl[ci]? = some q) (hqc : q.1 = y.cls) (hn : As.length = n) (hsz : ls.size = nL) (hw : (rest.map fun v => v.category).sum ≤ 8) (hst : st0 = As.reverse ++ .ref b :: rest) (hdg : decode cc pc = .ok (.invokevirtual index, 3)) (hf : cells ≤ R.cells ∧ slots ≤ R.slots)
    (kk : ∀ (H1 : Heap) (locs1 : List Loc), va_P D vwCl w2 H1 → va_D A w2 → va_S A H0 H1 locs1 → W p l e R s m ar below meth c H1 locs1 cells slots Q (F0 m (pc + 3) ls (.int r :: rest))) : W p l e R s m ar below meth c H locs cells slots Q (F0 m pc ls st0) := by
  have hPc : va_P D vwCl wc H := hP.sub isC (k_fm hC)
  have hDc : va_D A wc := hD.sub isC hCn hC
  have hFc := va_free (wc := wc) hD hS hA isC hC
  refine va_calli (va_runVN (As := As) (rest := rest) ⟨hx, hb, hml, hown, hts⟩ hM ⟨k_cN hts kc hk hrc hrs hR, hts _ kv.1, hts _ kv.2⟩ ⟨wr_blind, (by obtain ⟨cellB, a1, a2, a3⟩ := va_recv hK hPc hc hq; exact ⟨cellB, a1, a2, by rw [← hqc]; exact a3⟩), fun U hU hW => ⟨rfl, by rw [hU], by rw [hU]; exact hPc, va_K.moved hW.alike hK, hDc.weaken (fun _ _ _ _ => trivial)⟩⟩ rfl hn hsz hst (lv_room hw) hdg hf) hS (fun q _ h => hFc q h) hFc (fun x u t H1 locs ht hvm hw9 hB hz1 hk1 hS => ?_)
  subst hw9
  obtain ⟨hP1, hD1⟩ := hB
  rw [ht] at hP1
  obtain ⟨hP, hD⟩ := va_join (wr := wr) (w1 := w1) hP hD isC isR hC hRr hRn hdis hk1 hFc hP1 hD1
  exact kk H1 locs (hP.sub isF (k_fm hF)) (hD.sub isF hFn hF) hS
theorem k_rVNJ {p : Program} {l : Launch} {e : Env} {R : Room} {s : State} {m : MethodId} {ar : Array Value} {below : List Frame} {meth : Method} {c : Code} {H : Heap} {locs : List Loc} {cells slots : Nat} {Q : State → Prop} {y : MethodName} {bytes cc : ByteArray} {maxL nL n index : Nat} {ret : Option FieldType} {rm : Room} {own : String} {As rest st0 : List Value} {pc : Nat} {ls : Array Slot} {D : va_G} {ca : Nat → ClassId} {wc ws : va_W} {host : String} {b ci : Nat} {fs : List Value} {q : vw_C} {r : Int64} (hx : p.tables.exec = Jvm.exec) (hb : c.code = cc) (hml : c.maxLocals = nL) (hown : s.vm.findClass own = some m.cls) (hts : ∀ w ∈ TT, w.before ar s = true)
    (hM : Met l y (Cond.code y bytes maxL ret :: TT) rm (rd_P (.ref b :: As) D ca wc) (vp_Sl (fun x => x = r)) 0 0 (fun _ => False)) (kc : k_cal y bytes maxL ret n) (kv : k_vir y) (hk : Cond.methodLinkNest own index y host ∈ TT) (hR : rm.frames + 1 ≤ R.frames ∧ 8 + (maxL + 11) + rm.locals ≤ R.locals) (hrc : rm.cells = 0) (hrs : rm.slots = 0)
    (hP : va_P D vwCl ws H) (hK : va_K D vwCl (tyG ca) s) (is : List Nat) (hs : is.filterMap (fun i => ws[i]?) = wc) (q0 : Nat) (hq : wc[q0]? = some (b, .inr (ci, fs))) (hc : vwCl[ci]? = some q) (hqc : q.1 = y.cls) (hn : As.length = n) (hsz : ls.size = nL) (hw : (rest.map fun v => v.category).sum ≤ 8) (hst : st0 = As.reverse ++ .ref b :: rest) (hdg : decode cc pc = .ok (.invokevirtual index, 3)) (hf : cells ≤ R.cells ∧ slots ≤ R.slots)
    (kk : W p l e R s m ar below meth c H locs cells slots Q (F0 m (pc + 3) ls (.long r :: rest))) : W p l e R s m ar below meth c H locs cells slots Q (F0 m pc ls st0) :=
  vp_callSl (va_Run.run (va_runVN (As := As) (rest := rest) ⟨hx, hb, hml, hown, hts⟩ hM ⟨k_cN hts kc hk hrc hrs hR, hts _ kv.1, hts _ kv.2⟩ ⟨rd_blind, (by obtain ⟨cellB, a1, a2, a3⟩ := va_recv hK (hP.sub is hs) hc hq; exact ⟨cellB, a1, a2, by rw [← hqc]; exact a3⟩), fun U hU hW => ⟨rfl, by rw [hU]; exact hP.sub is hs, va_K.moved hW.alike hK⟩⟩ rfl hn hsz hst (lv_room hw) hdg hf)) (fun x hx9 => by subst hx9; exact kk)
theorem k_wVNJ {p : Program} {l : Launch} {e : Env} {R : Room} {s : State} {m : MethodId} {ar : Array Value} {below : List Frame} {meth : Method} {c : Code} {H : Heap} {locs : List Loc} {cells slots : Nat} {Q : State → Prop} {y : MethodName} {bytes cc : ByteArray} {maxL nL n index : Nat} {ret : Option FieldType} {rm : Room} {own : String} {As rest st0 : List Value} {pc : Nat} {ls : Array Slot} {D : va_G} {ca : Nat → ClassId} {wc ws : va_W} {host : String} {b ci : Nat} {fs : List Value} {q : vw_C} {r : Int64} {wr w1 w2 : va_W} {A : Nat → Prop} {H0 : Heap} (hx : p.tables.exec = Jvm.exec) (hb : c.code = cc) (hml : c.maxLocals = nL) (hown : s.vm.findClass own = some m.cls) (hts : ∀ w ∈ TT, w.before ar s = true)
    (hM : Met l y (Cond.code y bytes maxL ret :: TT) rm (wr_P (.ref b :: As) D ca wc H.size) (va_Ql (fun x (_ : Unit) => x = r) (wr_B D wc H.size w1) (va_A wc H.size)) 0 0 (va_A wc H.size)) (kc : k_cal y bytes maxL ret n) (kv : k_vir y) (hk : Cond.methodLinkNest own index y host ∈ TT) (hR : rm.frames + 1 ≤ R.frames ∧ 8 + (maxL + 11) + rm.locals ≤ R.locals) (hrc : rm.cells = 0) (hrs : rm.slots = 0)
    (hP : va_P D vwCl ws H) (hK : va_K D vwCl (tyG ca) s) (hD : va_D A ws) (hS : va_S A H0 H locs) (hA : ∀ q : Nat, H0.size ≤ q → A q)
    (isC isR isF : List Nat) (hC : isC.map (fun i => ws[i]?) = wc.map some) (hCn : va_nd isC = true) (hRr : isR.map (fun i => ws[i]?) = wr.map some) (hRn : va_nd isR = true) (hdis : ∀ i ∈ isR, i ∉ isC) (hF : isF.map (fun i => (wr ++ w1)[i]?) = w2.map some) (hFn : va_nd isF = true)
    (q0 : Nat) (hq : wc[q0]? = some (b, .inr (ci, fs))) (hc : vwCl[ci]? = some q) (hqc : q.1 = y.cls) (hn : As.length = n) (hsz : ls.size = nL) (hw : (rest.map fun v => v.category).sum ≤ 8) (hst : st0 = As.reverse ++ .ref b :: rest) (hdg : decode cc pc = .ok (.invokevirtual index, 3)) (hf : cells ≤ R.cells ∧ slots ≤ R.slots)
    (kk : ∀ (H1 : Heap) (locs1 : List Loc), va_P D vwCl w2 H1 → va_D A w2 → va_S A H0 H1 locs1 → W p l e R s m ar below meth c H1 locs1 cells slots Q (F0 m (pc + 3) ls (.long r :: rest))) : W p l e R s m ar below meth c H locs cells slots Q (F0 m pc ls st0) := by
  have hPc : va_P D vwCl wc H := hP.sub isC (k_fm hC)
  have hDc : va_D A wc := hD.sub isC hCn hC
  have hFc := va_free (wc := wc) hD hS hA isC hC
  refine va_calll (va_runVN (As := As) (rest := rest) ⟨hx, hb, hml, hown, hts⟩ hM ⟨k_cN hts kc hk hrc hrs hR, hts _ kv.1, hts _ kv.2⟩ ⟨wr_blind, (by obtain ⟨cellB, a1, a2, a3⟩ := va_recv hK hPc hc hq; exact ⟨cellB, a1, a2, by rw [← hqc]; exact a3⟩), fun U hU hW => ⟨rfl, by rw [hU], by rw [hU]; exact hPc, va_K.moved hW.alike hK, hDc.weaken (fun _ _ _ _ => trivial)⟩⟩ rfl hn hsz hst (lv_room hw) hdg hf) hS (fun q _ h => hFc q h) hFc (fun x u t H1 locs ht hvm hw9 hB hz1 hk1 hS => ?_)
  subst hw9
  obtain ⟨hP1, hD1⟩ := hB
  rw [ht] at hP1
  obtain ⟨hP, hD⟩ := va_join (wr := wr) (w1 := w1) hP hD isC isR hC hRr hRn hdis hk1 hFc hP1 hD1
  exact kk H1 locs (hP.sub isF (k_fm hF)) (hD.sub isF hFn hF) hS
theorem k_rVNV {p : Program} {l : Launch} {e : Env} {R : Room} {s : State} {m : MethodId} {ar : Array Value} {below : List Frame} {meth : Method} {c : Code} {H : Heap} {locs : List Loc} {cells slots : Nat} {Q : State → Prop} {y : MethodName} {bytes cc : ByteArray} {maxL nL n index : Nat} {ret : Option FieldType} {rm : Room} {own : String} {As rest st0 : List Value} {pc : Nat} {ls : Array Slot} {D : va_G} {ca : Nat → ClassId} {wc ws : va_W} {host : String} {b ci : Nat} {fs : List Value} {q : vw_C} (hx : p.tables.exec = Jvm.exec) (hb : c.code = cc) (hml : c.maxLocals = nL) (hown : s.vm.findClass own = some m.cls) (hts : ∀ w ∈ TT, w.before ar s = true)
    (hM : Met l y (Cond.code y bytes maxL ret :: TT) rm (rd_P (.ref b :: As) D ca wc) (va_Sv (fun _ => True)) 0 0 (fun _ => False)) (kc : k_cal y bytes maxL ret n) (kv : k_vir y) (hk : Cond.methodLinkNest own index y host ∈ TT) (hR : rm.frames + 1 ≤ R.frames ∧ 8 + (maxL + 11) + rm.locals ≤ R.locals) (hrc : rm.cells = 0) (hrs : rm.slots = 0)
    (hP : va_P D vwCl ws H) (hK : va_K D vwCl (tyG ca) s) (is : List Nat) (hs : is.filterMap (fun i => ws[i]?) = wc) (q0 : Nat) (hq : wc[q0]? = some (b, .inr (ci, fs))) (hc : vwCl[ci]? = some q) (hqc : q.1 = y.cls) (hn : As.length = n) (hsz : ls.size = nL) (hw : (rest.map fun v => v.category).sum ≤ 8) (hst : st0 = As.reverse ++ .ref b :: rest) (hdg : decode cc pc = .ok (.invokevirtual index, 3)) (hf : cells ≤ R.cells ∧ slots ≤ R.slots)
    (kk : W p l e R s m ar below meth c H locs cells slots Q (F0 m (pc + 3) ls rest)) : W p l e R s m ar below meth c H locs cells slots Q (F0 m pc ls st0) :=
  va_csv (va_Run.run (va_runVN (As := As) (rest := rest) ⟨hx, hb, hml, hown, hts⟩ hM ⟨k_cN hts kc hk hrc hrs hR, hts _ kv.1, hts _ kv.2⟩ ⟨rd_blind, (by obtain ⟨cellB, a1, a2, a3⟩ := va_recv hK (hP.sub is hs) hc hq; exact ⟨cellB, a1, a2, by rw [← hqc]; exact a3⟩), fun U hU hW => ⟨rfl, by rw [hU]; exact hP.sub is hs, va_K.moved hW.alike hK⟩⟩ rfl hn hsz hst (lv_room hw) hdg hf)) (fun _ => kk)
theorem k_wVNV {p : Program} {l : Launch} {e : Env} {R : Room} {s : State} {m : MethodId} {ar : Array Value} {below : List Frame} {meth : Method} {c : Code} {H : Heap} {locs : List Loc} {cells slots : Nat} {Q : State → Prop} {y : MethodName} {bytes cc : ByteArray} {maxL nL n index : Nat} {ret : Option FieldType} {rm : Room} {own : String} {As rest st0 : List Value} {pc : Nat} {ls : Array Slot} {D : va_G} {ca : Nat → ClassId} {wc ws : va_W} {host : String} {b ci : Nat} {fs : List Value} {q : vw_C} {wr w1 w2 : va_W} {A : Nat → Prop} {H0 : Heap} (hx : p.tables.exec = Jvm.exec) (hb : c.code = cc) (hml : c.maxLocals = nL) (hown : s.vm.findClass own = some m.cls) (hts : ∀ w ∈ TT, w.before ar s = true)
    (hM : Met l y (Cond.code y bytes maxL ret :: TT) rm (wr_P (.ref b :: As) D ca wc H.size) (va_Qv (fun (_ : Unit) => True) (wr_B D wc H.size w1) (va_A wc H.size)) 0 0 (va_A wc H.size)) (kc : k_cal y bytes maxL ret n) (kv : k_vir y) (hk : Cond.methodLinkNest own index y host ∈ TT) (hR : rm.frames + 1 ≤ R.frames ∧ 8 + (maxL + 11) + rm.locals ≤ R.locals) (hrc : rm.cells = 0) (hrs : rm.slots = 0)
    (hP : va_P D vwCl ws H) (hK : va_K D vwCl (tyG ca) s) (hD : va_D A ws) (hS : va_S A H0 H locs) (hA : ∀ q : Nat, H0.size ≤ q → A q)
    (isC isR isF : List Nat) (hC : isC.map (fun i => ws[i]?) = wc.map some) (hCn : va_nd isC = true) (hRr : isR.map (fun i => ws[i]?) = wr.map some) (hRn : va_nd isR = true) (hdis : ∀ i ∈ isR, i ∉ isC) (hF : isF.map (fun i => (wr ++ w1)[i]?) = w2.map some) (hFn : va_nd isF = true)
    (q0 : Nat) (hq : wc[q0]? = some (b, .inr (ci, fs))) (hc : vwCl[ci]? = some q) (hqc : q.1 = y.cls) (hn : As.length = n) (hsz : ls.size = nL) (hw : (rest.map fun v => v.category).sum ≤ 8) (hst : st0 = As.reverse ++ .ref b :: rest) (hdg : decode cc pc = .ok (.invokevirtual index, 3)) (hf : cells ≤ R.cells ∧ slots ≤ R.slots)
    (kk : ∀ (H1 : Heap) (locs1 : List Loc), va_P D vwCl w2 H1 → va_D A w2 → va_S A H0 H1 locs1 → W p l e R s m ar below meth c H1 locs1 cells slots Q (F0 m (pc + 3) ls rest)) : W p l e R s m ar below meth c H locs cells slots Q (F0 m pc ls st0) := by
  have hPc : va_P D vwCl wc H := hP.sub isC (k_fm hC)
  have hDc : va_D A wc := hD.sub isC hCn hC
  have hFc := va_free (wc := wc) hD hS hA isC hC
  refine va_callv (va_runVN (As := As) (rest := rest) ⟨hx, hb, hml, hown, hts⟩ hM ⟨k_cN hts kc hk hrc hrs hR, hts _ kv.1, hts _ kv.2⟩ ⟨wr_blind, (by obtain ⟨cellB, a1, a2, a3⟩ := va_recv hK hPc hc hq; exact ⟨cellB, a1, a2, by rw [← hqc]; exact a3⟩), fun U hU hW => ⟨rfl, by rw [hU], by rw [hU]; exact hPc, va_K.moved hW.alike hK, hDc.weaken (fun _ _ _ _ => trivial)⟩⟩ rfl hn hsz hst (lv_room hw) hdg hf) hS (fun q _ h => hFc q h) hFc (fun u t H1 locs ht hvm hw9 hB hz1 hk1 hS => ?_)
  obtain ⟨hP1, hD1⟩ := hB
  rw [ht] at hP1
  obtain ⟨hP, hD⟩ := va_join (wr := wr) (w1 := w1) hP hD isC isR hC hRr hRn hdis hk1 hFc hP1 hD1
  exact kk H1 locs (hP.sub isF (k_fm hF)) (hD.sub isF hFn hF) hS
theorem k_rSNI {p : Program} {l : Launch} {e : Env} {R : Room} {s : State} {m : MethodId} {ar : Array Value} {below : List Frame} {meth : Method} {c : Code} {H : Heap} {locs : List Loc} {cells slots : Nat} {Q : State → Prop} {y : MethodName} {bytes cc : ByteArray} {maxL nL n index : Nat} {ret : Option FieldType} {rm : Room} {own : String} {As rest st0 : List Value} {pc : Nat} {ls : Array Slot} {D : va_G} {ca : Nat → ClassId} {wc ws : va_W} {host : String} {r : Int32} (hx : p.tables.exec = Jvm.exec) (hb : c.code = cc) (hml : c.maxLocals = nL) (hown : s.vm.findClass own = some m.cls) (hts : ∀ w ∈ TT, w.before ar s = true)
    (hM : Met l y (Cond.code y bytes maxL ret :: TT) rm (rd_P As D ca wc) (vp_Si (fun x => x = r)) 0 0 (fun _ => False)) (kc : k_cal y bytes maxL ret n) (kv : Cond.static y ∈ TT) (hk : Cond.methodLinkNest own index y host ∈ TT) (hR : rm.frames + 1 ≤ R.frames ∧ 8 + (maxL + 11) + rm.locals ≤ R.locals) (hrc : rm.cells = 0) (hrs : rm.slots = 0)
    (hP : va_P D vwCl ws H) (hK : va_K D vwCl (tyG ca) s) (is : List Nat) (hs : is.filterMap (fun i => ws[i]?) = wc) (hn : As.length = n) (hsz : ls.size = nL) (hw : (rest.map fun v => v.category).sum ≤ 8) (hst : st0 = As.reverse ++ rest) (hdg : decode cc pc = .ok (.invokestatic index, 3)) (hf : cells ≤ R.cells ∧ slots ≤ R.slots)
    (kk : W p l e R s m ar below meth c H locs cells slots Q (F0 m (pc + 3) ls (.int r :: rest))) : W p l e R s m ar below meth c H locs cells slots Q (F0 m pc ls st0) :=
  vp_callSi (va_Run.run (va_runSN (As := As) (rest := rest) ⟨hx, hb, hml, hown, hts⟩ hM ⟨k_cN hts kc hk hrc hrs hR, hts _ kv, trivial⟩ ⟨rd_blind, fun U hU hW => ⟨rfl, by rw [hU]; exact hP.sub is hs, va_K.moved hW.alike hK⟩⟩ rfl hn hsz hst (lv_room hw) hdg hf)) (fun x hx9 => by subst hx9; exact kk)
theorem k_wSNI {p : Program} {l : Launch} {e : Env} {R : Room} {s : State} {m : MethodId} {ar : Array Value} {below : List Frame} {meth : Method} {c : Code} {H : Heap} {locs : List Loc} {cells slots : Nat} {Q : State → Prop} {y : MethodName} {bytes cc : ByteArray} {maxL nL n index : Nat} {ret : Option FieldType} {rm : Room} {own : String} {As rest st0 : List Value} {pc : Nat} {ls : Array Slot} {D : va_G} {ca : Nat → ClassId} {wc ws : va_W} {host : String} {r : Int32} {wr w1 w2 : va_W} {A : Nat → Prop} {H0 : Heap} (hx : p.tables.exec = Jvm.exec) (hb : c.code = cc) (hml : c.maxLocals = nL) (hown : s.vm.findClass own = some m.cls) (hts : ∀ w ∈ TT, w.before ar s = true)
    (hM : Met l y (Cond.code y bytes maxL ret :: TT) rm (wr_P As D ca wc H.size) (va_Qi (fun x (_ : Unit) => x = r) (wr_B D wc H.size w1) (va_A wc H.size)) 0 0 (va_A wc H.size)) (kc : k_cal y bytes maxL ret n) (kv : Cond.static y ∈ TT) (hk : Cond.methodLinkNest own index y host ∈ TT) (hR : rm.frames + 1 ≤ R.frames ∧ 8 + (maxL + 11) + rm.locals ≤ R.locals) (hrc : rm.cells = 0) (hrs : rm.slots = 0)
    (hP : va_P D vwCl ws H) (hK : va_K D vwCl (tyG ca) s) (hD : va_D A ws) (hS : va_S A H0 H locs) (hA : ∀ q : Nat, H0.size ≤ q → A q)
    (isC isR isF : List Nat) (hC : isC.map (fun i => ws[i]?) = wc.map some) (hCn : va_nd isC = true) (hRr : isR.map (fun i => ws[i]?) = wr.map some) (hRn : va_nd isR = true) (hdis : ∀ i ∈ isR, i ∉ isC) (hF : isF.map (fun i => (wr ++ w1)[i]?) = w2.map some) (hFn : va_nd isF = true)
    (hn : As.length = n) (hsz : ls.size = nL) (hw : (rest.map fun v => v.category).sum ≤ 8) (hst : st0 = As.reverse ++ rest) (hdg : decode cc pc = .ok (.invokestatic index, 3)) (hf : cells ≤ R.cells ∧ slots ≤ R.slots)
    (kk : ∀ (H1 : Heap) (locs1 : List Loc), va_P D vwCl w2 H1 → va_D A w2 → va_S A H0 H1 locs1 → W p l e R s m ar below meth c H1 locs1 cells slots Q (F0 m (pc + 3) ls (.int r :: rest))) : W p l e R s m ar below meth c H locs cells slots Q (F0 m pc ls st0) := by
  have hPc : va_P D vwCl wc H := hP.sub isC (k_fm hC)
  have hDc : va_D A wc := hD.sub isC hCn hC
  have hFc := va_free (wc := wc) hD hS hA isC hC
  refine va_calli (va_runSN (As := As) (rest := rest) ⟨hx, hb, hml, hown, hts⟩ hM ⟨k_cN hts kc hk hrc hrs hR, hts _ kv, trivial⟩ ⟨wr_blind, fun U hU hW => ⟨rfl, by rw [hU], by rw [hU]; exact hPc, va_K.moved hW.alike hK, hDc.weaken (fun _ _ _ _ => trivial)⟩⟩ rfl hn hsz hst (lv_room hw) hdg hf) hS (fun q _ h => hFc q h) hFc (fun x u t H1 locs ht hvm hw9 hB hz1 hk1 hS => ?_)
  subst hw9
  obtain ⟨hP1, hD1⟩ := hB
  rw [ht] at hP1
  obtain ⟨hP, hD⟩ := va_join (wr := wr) (w1 := w1) hP hD isC isR hC hRr hRn hdis hk1 hFc hP1 hD1
  exact kk H1 locs (hP.sub isF (k_fm hF)) (hD.sub isF hFn hF) hS
theorem k_rSNJ {p : Program} {l : Launch} {e : Env} {R : Room} {s : State} {m : MethodId} {ar : Array Value} {below : List Frame} {meth : Method} {c : Code} {H : Heap} {locs : List Loc} {cells slots : Nat} {Q : State → Prop} {y : MethodName} {bytes cc : ByteArray} {maxL nL n index : Nat} {ret : Option FieldType} {rm : Room} {own : String} {As rest st0 : List Value} {pc : Nat} {ls : Array Slot} {D : va_G} {ca : Nat → ClassId} {wc ws : va_W} {host : String} {r : Int64} (hx : p.tables.exec = Jvm.exec) (hb : c.code = cc) (hml : c.maxLocals = nL) (hown : s.vm.findClass own = some m.cls) (hts : ∀ w ∈ TT, w.before ar s = true)
    (hM : Met l y (Cond.code y bytes maxL ret :: TT) rm (rd_P As D ca wc) (vp_Sl (fun x => x = r)) 0 0 (fun _ => False)) (kc : k_cal y bytes maxL ret n) (kv : Cond.static y ∈ TT) (hk : Cond.methodLinkNest own index y host ∈ TT) (hR : rm.frames + 1 ≤ R.frames ∧ 8 + (maxL + 11) + rm.locals ≤ R.locals) (hrc : rm.cells = 0) (hrs : rm.slots = 0)
    (hP : va_P D vwCl ws H) (hK : va_K D vwCl (tyG ca) s) (is : List Nat) (hs : is.filterMap (fun i => ws[i]?) = wc) (hn : As.length = n) (hsz : ls.size = nL) (hw : (rest.map fun v => v.category).sum ≤ 8) (hst : st0 = As.reverse ++ rest) (hdg : decode cc pc = .ok (.invokestatic index, 3)) (hf : cells ≤ R.cells ∧ slots ≤ R.slots)
    (kk : W p l e R s m ar below meth c H locs cells slots Q (F0 m (pc + 3) ls (.long r :: rest))) : W p l e R s m ar below meth c H locs cells slots Q (F0 m pc ls st0) :=
  vp_callSl (va_Run.run (va_runSN (As := As) (rest := rest) ⟨hx, hb, hml, hown, hts⟩ hM ⟨k_cN hts kc hk hrc hrs hR, hts _ kv, trivial⟩ ⟨rd_blind, fun U hU hW => ⟨rfl, by rw [hU]; exact hP.sub is hs, va_K.moved hW.alike hK⟩⟩ rfl hn hsz hst (lv_room hw) hdg hf)) (fun x hx9 => by subst hx9; exact kk)
theorem k_wSNJ {p : Program} {l : Launch} {e : Env} {R : Room} {s : State} {m : MethodId} {ar : Array Value} {below : List Frame} {meth : Method} {c : Code} {H : Heap} {locs : List Loc} {cells slots : Nat} {Q : State → Prop} {y : MethodName} {bytes cc : ByteArray} {maxL nL n index : Nat} {ret : Option FieldType} {rm : Room} {own : String} {As rest st0 : List Value} {pc : Nat} {ls : Array Slot} {D : va_G} {ca : Nat → ClassId} {wc ws : va_W} {host : String} {r : Int64} {wr w1 w2 : va_W} {A : Nat → Prop} {H0 : Heap} (hx : p.tables.exec = Jvm.exec) (hb : c.code = cc) (hml : c.maxLocals = nL) (hown : s.vm.findClass own = some m.cls) (hts : ∀ w ∈ TT, w.before ar s = true)
    (hM : Met l y (Cond.code y bytes maxL ret :: TT) rm (wr_P As D ca wc H.size) (va_Ql (fun x (_ : Unit) => x = r) (wr_B D wc H.size w1) (va_A wc H.size)) 0 0 (va_A wc H.size)) (kc : k_cal y bytes maxL ret n) (kv : Cond.static y ∈ TT) (hk : Cond.methodLinkNest own index y host ∈ TT) (hR : rm.frames + 1 ≤ R.frames ∧ 8 + (maxL + 11) + rm.locals ≤ R.locals) (hrc : rm.cells = 0) (hrs : rm.slots = 0)
    (hP : va_P D vwCl ws H) (hK : va_K D vwCl (tyG ca) s) (hD : va_D A ws) (hS : va_S A H0 H locs) (hA : ∀ q : Nat, H0.size ≤ q → A q)
    (isC isR isF : List Nat) (hC : isC.map (fun i => ws[i]?) = wc.map some) (hCn : va_nd isC = true) (hRr : isR.map (fun i => ws[i]?) = wr.map some) (hRn : va_nd isR = true) (hdis : ∀ i ∈ isR, i ∉ isC) (hF : isF.map (fun i => (wr ++ w1)[i]?) = w2.map some) (hFn : va_nd isF = true)
    (hn : As.length = n) (hsz : ls.size = nL) (hw : (rest.map fun v => v.category).sum ≤ 8) (hst : st0 = As.reverse ++ rest) (hdg : decode cc pc = .ok (.invokestatic index, 3)) (hf : cells ≤ R.cells ∧ slots ≤ R.slots)
    (kk : ∀ (H1 : Heap) (locs1 : List Loc), va_P D vwCl w2 H1 → va_D A w2 → va_S A H0 H1 locs1 → W p l e R s m ar below meth c H1 locs1 cells slots Q (F0 m (pc + 3) ls (.long r :: rest))) : W p l e R s m ar below meth c H locs cells slots Q (F0 m pc ls st0) := by
  have hPc : va_P D vwCl wc H := hP.sub isC (k_fm hC)
  have hDc : va_D A wc := hD.sub isC hCn hC
  have hFc := va_free (wc := wc) hD hS hA isC hC
  refine va_calll (va_runSN (As := As) (rest := rest) ⟨hx, hb, hml, hown, hts⟩ hM ⟨k_cN hts kc hk hrc hrs hR, hts _ kv, trivial⟩ ⟨wr_blind, fun U hU hW => ⟨rfl, by rw [hU], by rw [hU]; exact hPc, va_K.moved hW.alike hK, hDc.weaken (fun _ _ _ _ => trivial)⟩⟩ rfl hn hsz hst (lv_room hw) hdg hf) hS (fun q _ h => hFc q h) hFc (fun x u t H1 locs ht hvm hw9 hB hz1 hk1 hS => ?_)
  subst hw9
  obtain ⟨hP1, hD1⟩ := hB
  rw [ht] at hP1
  obtain ⟨hP, hD⟩ := va_join (wr := wr) (w1 := w1) hP hD isC isR hC hRr hRn hdis hk1 hFc hP1 hD1
  exact kk H1 locs (hP.sub isF (k_fm hF)) (hD.sub isF hFn hF) hS
theorem k_rSNV {p : Program} {l : Launch} {e : Env} {R : Room} {s : State} {m : MethodId} {ar : Array Value} {below : List Frame} {meth : Method} {c : Code} {H : Heap} {locs : List Loc} {cells slots : Nat} {Q : State → Prop} {y : MethodName} {bytes cc : ByteArray} {maxL nL n index : Nat} {ret : Option FieldType} {rm : Room} {own : String} {As rest st0 : List Value} {pc : Nat} {ls : Array Slot} {D : va_G} {ca : Nat → ClassId} {wc ws : va_W} {host : String} (hx : p.tables.exec = Jvm.exec) (hb : c.code = cc) (hml : c.maxLocals = nL) (hown : s.vm.findClass own = some m.cls) (hts : ∀ w ∈ TT, w.before ar s = true)
    (hM : Met l y (Cond.code y bytes maxL ret :: TT) rm (rd_P As D ca wc) (va_Sv (fun _ => True)) 0 0 (fun _ => False)) (kc : k_cal y bytes maxL ret n) (kv : Cond.static y ∈ TT) (hk : Cond.methodLinkNest own index y host ∈ TT) (hR : rm.frames + 1 ≤ R.frames ∧ 8 + (maxL + 11) + rm.locals ≤ R.locals) (hrc : rm.cells = 0) (hrs : rm.slots = 0)
    (hP : va_P D vwCl ws H) (hK : va_K D vwCl (tyG ca) s) (is : List Nat) (hs : is.filterMap (fun i => ws[i]?) = wc) (hn : As.length = n) (hsz : ls.size = nL) (hw : (rest.map fun v => v.category).sum ≤ 8) (hst : st0 = As.reverse ++ rest) (hdg : decode cc pc = .ok (.invokestatic index, 3)) (hf : cells ≤ R.cells ∧ slots ≤ R.slots)
    (kk : W p l e R s m ar below meth c H locs cells slots Q (F0 m (pc + 3) ls rest)) : W p l e R s m ar below meth c H locs cells slots Q (F0 m pc ls st0) :=
  va_csv (va_Run.run (va_runSN (As := As) (rest := rest) ⟨hx, hb, hml, hown, hts⟩ hM ⟨k_cN hts kc hk hrc hrs hR, hts _ kv, trivial⟩ ⟨rd_blind, fun U hU hW => ⟨rfl, by rw [hU]; exact hP.sub is hs, va_K.moved hW.alike hK⟩⟩ rfl hn hsz hst (lv_room hw) hdg hf)) (fun _ => kk)
theorem k_wSNV {p : Program} {l : Launch} {e : Env} {R : Room} {s : State} {m : MethodId} {ar : Array Value} {below : List Frame} {meth : Method} {c : Code} {H : Heap} {locs : List Loc} {cells slots : Nat} {Q : State → Prop} {y : MethodName} {bytes cc : ByteArray} {maxL nL n index : Nat} {ret : Option FieldType} {rm : Room} {own : String} {As rest st0 : List Value} {pc : Nat} {ls : Array Slot} {D : va_G} {ca : Nat → ClassId} {wc ws : va_W} {host : String} {wr w1 w2 : va_W} {A : Nat → Prop} {H0 : Heap} (hx : p.tables.exec = Jvm.exec) (hb : c.code = cc) (hml : c.maxLocals = nL) (hown : s.vm.findClass own = some m.cls) (hts : ∀ w ∈ TT, w.before ar s = true)
    (hM : Met l y (Cond.code y bytes maxL ret :: TT) rm (wr_P As D ca wc H.size) (va_Qv (fun (_ : Unit) => True) (wr_B D wc H.size w1) (va_A wc H.size)) 0 0 (va_A wc H.size)) (kc : k_cal y bytes maxL ret n) (kv : Cond.static y ∈ TT) (hk : Cond.methodLinkNest own index y host ∈ TT) (hR : rm.frames + 1 ≤ R.frames ∧ 8 + (maxL + 11) + rm.locals ≤ R.locals) (hrc : rm.cells = 0) (hrs : rm.slots = 0)
    (hP : va_P D vwCl ws H) (hK : va_K D vwCl (tyG ca) s) (hD : va_D A ws) (hS : va_S A H0 H locs) (hA : ∀ q : Nat, H0.size ≤ q → A q)
    (isC isR isF : List Nat) (hC : isC.map (fun i => ws[i]?) = wc.map some) (hCn : va_nd isC = true) (hRr : isR.map (fun i => ws[i]?) = wr.map some) (hRn : va_nd isR = true) (hdis : ∀ i ∈ isR, i ∉ isC) (hF : isF.map (fun i => (wr ++ w1)[i]?) = w2.map some) (hFn : va_nd isF = true)
    (hn : As.length = n) (hsz : ls.size = nL) (hw : (rest.map fun v => v.category).sum ≤ 8) (hst : st0 = As.reverse ++ rest) (hdg : decode cc pc = .ok (.invokestatic index, 3)) (hf : cells ≤ R.cells ∧ slots ≤ R.slots)
    (kk : ∀ (H1 : Heap) (locs1 : List Loc), va_P D vwCl w2 H1 → va_D A w2 → va_S A H0 H1 locs1 → W p l e R s m ar below meth c H1 locs1 cells slots Q (F0 m (pc + 3) ls rest)) : W p l e R s m ar below meth c H locs cells slots Q (F0 m pc ls st0) := by
  have hPc : va_P D vwCl wc H := hP.sub isC (k_fm hC)
  have hDc : va_D A wc := hD.sub isC hCn hC
  have hFc := va_free (wc := wc) hD hS hA isC hC
  refine va_callv (va_runSN (As := As) (rest := rest) ⟨hx, hb, hml, hown, hts⟩ hM ⟨k_cN hts kc hk hrc hrs hR, hts _ kv, trivial⟩ ⟨wr_blind, fun U hU hW => ⟨rfl, by rw [hU], by rw [hU]; exact hPc, va_K.moved hW.alike hK, hDc.weaken (fun _ _ _ _ => trivial)⟩⟩ rfl hn hsz hst (lv_room hw) hdg hf) hS (fun q _ h => hFc q h) hFc (fun u t H1 locs ht hvm hw9 hB hz1 hk1 hS => ?_)
  obtain ⟨hP1, hD1⟩ := hB
  rw [ht] at hP1
  obtain ⟨hP, hD⟩ := va_join (wr := wr) (w1 := w1) hP hD isC isR hC hRr hRn hdis hk1 hFc hP1 hD1
  exact kk H1 locs (hP.sub isF (k_fm hF)) (hD.sub isF hFn hF) hS
section KA
variable {p : Program} {l : Launch} {e : Env} {R : Room} {s : State} {m : MethodId} {args : Array Value} {below : List Frame} {meth : Method} {c : Code} {H : Heap} {locs : List Loc} {cells slots : Nat} {Q : State → Prop}
variable {cc : ByteArray} {pc : Nat} {ls : Array Slot} {rest : List Value} {D : va_G} {cl : List vw_C} {a : Nat} {tys : List (ClassId × FieldType)} {ws : va_W}
theorem k_aldq (hexec : p.tables.exec = Jvm.exec) (hb : c.code = cc) (hK : va_K D cl tys s) (hP : va_P D cl ws H) (q0 t0 : Nat) {cA : ClassId} {C : String} {n k q : Nat} {f : Nat → Option Nat} (ha : ws[q0]? = some (a, .inl (cA, n, .inr (.inr (.inr (.inr f)))))) (ht : tys[t0]? = some (cA, .object C)) {i j : Int32} (hi : i = j) (hin : ¬ (j < 0 ∨ n ≤ j.toNatClampNeg)) (hk : j.toNatClampNeg = k) (hf : f k = some q) (hdg : decode cc pc = .ok (.aaload, 1))
    (kk : W p l e R s m args below meth c H locs cells slots Q (F0 m (pc + 1) ls (.ref q :: rest))) : W p l e R s m args below meth c H locs cells slots Q (F0 m pc ls (.int i :: .ref a :: rest)) := by
  subst hi
  refine va_aldq hexec hb hK hP q0 t0 ha ht hin hdg ?_
  rw [hk, hf]
  exact kk
theorem k_aldqA (hexec : p.tables.exec = Jvm.exec) (hb : c.code = cc) (hK : va_K D cl tys s) (hP : va_P D cl ws H) (q0 t0 : Nat) {cA : ClassId} {t : FieldType} {n k q : Nat} {f : Nat → Option Nat} (ha : ws[q0]? = some (a, .inl (cA, n, .inr (.inr (.inr (.inr f)))))) (ht : tys[t0]? = some (cA, .array t)) {i j : Int32} (hi : i = j) (hin : ¬ (j < 0 ∨ n ≤ j.toNatClampNeg)) (hk : j.toNatClampNeg = k) (hf : f k = some q) (hdg : decode cc pc = .ok (.aaload, 1))
    (kk : W p l e R s m args below meth c H locs cells slots Q (F0 m (pc + 1) ls (.ref q :: rest))) : W p l e R s m args below meth c H locs cells slots Q (F0 m pc ls (.int i :: .ref a :: rest)) := by
  subst hi
  have hlt : i.toNatClampNeg < n := Nat.not_le.mp fun q => hin (Or.inr q)
  refine W.aald (v := .ref q) (ty := .array t) hexec hb (hP q0 _ ha) ((hK.2 t0 _ ht).1 n (fun j => va_rf (f j))) rfl (fun q => by cases q) ?_ ?_ rfl rfl hdg kk
  · show ¬ (i < 0 ∨ (arrV _ _ _).slots.size ≤ _)
    rw [arrV_size]
    exact hin
  · show (arrV _ _ _).slots[_]? = _
    rw [arrV_read _ _ hlt, hk, hf]
    rfl
end KA
theorem k_out4 {x : Int32} (lo : Int) {a b c d : Int32} (h1 : ¬ x = a) (h2 : ¬ x = b) (h3 : ¬ x = c) (h4 : ¬ x = d) (e1 : a.toInt = lo := by decide) (e2 : b.toInt = lo + 1 := by decide) (e3 : c.toInt = lo + 2 := by decide) (e4 : d.toInt = lo + 3 := by decide) : x.toInt < lo ∨ lo + 3 < x.toInt := by
  have g1 := lv_neT h1 e1
  have g2 := lv_neT h2 e2
  have g3 := lv_neT h3 e3
  have g4 := lv_neT h4 e4
  omega
theorem k_out5 {x : Int32} (lo : Int) {a b c d f : Int32} (h1 : ¬ x = a) (h2 : ¬ x = b) (h3 : ¬ x = c) (h4 : ¬ x = d) (h5 : ¬ x = f) (e1 : a.toInt = lo := by decide) (e2 : b.toInt = lo + 1 := by decide) (e3 : c.toInt = lo + 2 := by decide) (e4 : d.toInt = lo + 3 := by decide) (e5 : f.toInt = lo + 4 := by decide) : x.toInt < lo ∨ lo + 4 < x.toInt := by
  have g1 := lv_neT h1 e1
  have g2 := lv_neT h2 e2
  have g3 := lv_neT h3 e3
  have g4 := lv_neT h4 e4
  have g5 := lv_neT h5 e5
  omega
