set_option maxHeartbeats 8000000 in
set_option maxRecDepth 100000 in
theorem lc_hour {p : Program} {l : Launch} {e : Env} {s : State} {m : MethodId} {below : List Frame} {meth : Method} {c : Code} {D : va_G} {ca : Nat → ClassId} {b Ls : Nat} {xs : Nat → Int32} (C0 : lw_At p s m meth c b Ls xs) (hL : Ls ≤ 2560) (hlt : l.stackTraces = false) (hev0 : xt_ev s s.heap) (hK : va_K D vwCl (tyG ca) s) {Rel : (Nat → Int32) → (Nat → Int64) → (Nat → Nat → Int32) → (Nat → Nat → Int64) → (Nat → Int32) → (Nat → Nat → Int32) → (Nat → Nat → Int64) → Prop} {qc qm : Nat → Nat} {qo : Nat} {I : Nat → Int32} {J : Nat → Int64} {A : Nat → Nat → Int32} {L : Nat → Nat → Int64} {i : Nat → Int32} {a : Nat → Nat → Int32} {l9 : Nat → Nat → Int64} {o : Nat → Int64} {n : Nat} (hn : n + 5 ≤ Ls) {H : Heap} {locs : List Loc} {ls : Array Slot} (hP : va_P D vwCl (wA qc qm qo ca I J A L i a l9 o) H) (hD : va_D (fun q : Nat => s.heap.size ≤ q) (wA qc qm qo ca I J A L i a l9 o)) (hS : va_S (fun q : Nat => s.heap.size ≤ q) s.heap H locs) (hl : lv_has ls 8 [(4, .int (nI n)), (3, .ref qo), (2, .ref (qm 0)), (1, .ref (qc 0)), (0, .ref b)]) (hst : st_hour Rel I J A L i a l9 o (xs (n + 1)) (xs (n + 2)) (xs (n + 3))) (hnext : ∀ (I : Nat → Int32) (J : Nat → Int64) (A : Nat → Nat → Int32) (L : Nat → Nat → Int64) (i : Nat → Int32) (a : Nat → Nat → Int32) (l9 : Nat → Nat → Int64) (o : Nat → Int64) (H : Heap) (locs : List Loc) (ls : Array Slot), Rel I J A L i a l9 → va_P D vwCl (wA qc qm qo ca I J A L i a l9 o) H → va_D (fun q : Nat => s.heap.size ≤ q) (wA qc qm qo ca I J A L i a l9 o) → va_S (fun q : Nat => s.heap.size ≤ q) s.heap H locs → lv_has ls 8 [(4, .int (nI n)), (3, .ref qo), (2, .ref (qm 0)), (1, .ref (qc 0)), (0, .ref b)] → W p l e room_1 s m #[Value.ref b] below meth c H locs (400 + n + 1) (20000 + 6 * n + 6) (lw_Z below #[Value.ref b] s) (F0 m 1452 ls [])) : W p l e room_1 s m #[Value.ref b] below meth c H locs (400 + n) (20000 + 6 * n) (lw_Z below #[Value.ref b] s) (F0 m 456 ls []) := by
  obtain ⟨hx, hb, hr, hml, hown, hts0, hX, hbl, hlocks, hgv⟩ := C0
  have hts : ∀ w ∈ TT, w.before #[Value.ref b] s = true := fun w h => hts0 w (List.mem_filter.mp h).1
  have hA : ∀ q : Nat, s.heap.size ≤ q → (fun q : Nat => s.heap.size ≤ q) q := fun _ h => h
  have hbA : ¬ (fun q : Nat => s.heap.size ≤ q) b := Nat.not_le.mpr hbl
  have hown : s.vm.findClass nR_Law = some m.cls := hown
  have hev : xt_ev s H := k_evH hev0 hS
  unfold st_hour at hst
  rcases hst with ⟨R1, R2, R3, R4, R5, R6, R7, R8, R9, R10, R11, R12, R13, R14, R15, S0, S1, S2, S3, S4, S5, S6, S7, e1, e2, et, ea, hRel⟩ | ⟨S0, S1, S2, S3, S4, S5, S6, S7, e1, e2, et, hRel⟩ | ⟨S0, S1, S2, S3, S4, S5, S6, S7, e1, e2, et, hRel⟩
  ·
    refine lv_aload_n hx hb nd_Law_law_456 rfl (lv_at hl 3 rfl) ?_
    refine lv_aload_n hx hb nd_Law_law_457 rfl (lv_at hl 4 rfl) ?_
    refine lv_iload hx hb nd_Law_law_458 (lv_at hl 0 rfl) ?_
    refine lv_iconst (v := 1) hx hb nd_Law_law_460 (by decide) ?_
    refine lv_iadd hx hb nd_Law_law_461 ?_
    refine k_sld (n := n) (j := 1) hx hb hX hbl hbA hS (k_sidx rfl) (by omega) hL nd_Law_law_462 ?_
    refine lv_aload_n hx hb nd_Law_law_463 rfl (lv_at hl 4 rfl) ?_
    refine lv_iload hx hb nd_Law_law_464 (lv_at hl 0 rfl) ?_
    refine lv_iconst (v := 2) hx hb nd_Law_law_466 (by decide) ?_
    refine lv_iadd hx hb nd_Law_law_467 ?_
    refine k_sld (n := n) (j := 2) hx hb hX hbl hbA hS (k_sidx rfl) (by omega) hL nd_Law_law_468 ?_
    refine lv_aload_n hx hb nd_Law_law_469 rfl (lv_at hl 4 rfl) ?_
    refine lv_iload hx hb nd_Law_law_470 (lv_at hl 0 rfl) ?_
    refine lv_iconst (v := 3) hx hb nd_Law_law_472 (by decide) ?_
    refine lv_iadd hx hb nd_Law_law_473 ?_
    refine k_sld (n := n) (j := 3) hx hb hX hbl hbA hS (k_sidx rfl) (by omega) hL nd_Law_law_474 ?_
    refine lv_aload_n hx hb nd_Law_law_475 rfl (lv_at hl 1 rfl) ?_
    refine k_mSWI (w2 := wA qc qm qo ca (va_up I 0 R14) (va_up (va_up (va_up J 0 R1) 1 R3) 2 R6) (va_up (va_up (va_up (va_up (va_up (va_up (va_up A 8 R7) 24 R8) 29 R9) 28 R10) 30 R11) 31 R12) 32 R13) (va_up (va_up (va_up L 0 R2) 1 R4) 2 R5) i a l9 R15) (As := [.ref (qc 0), .int (xs (n + 1)), .int (xs (n + 2)), .int (xs (n + 3)), .ref qo]) (rest := []) (r := 0) hx hb hml hown hts (cn_Law_hour l D ca (qc 0) (qc 1) (qc 19) (qc 34) (qc 47) (qc 48) (qc 58) (qc 2) (qc 5) (qc 9) (qc 13) (qc 3) (qc 4) (qc 6) (qc 7) (qc 8) (qc 10) (qc 11) (qc 12) (qc 14) (qc 15) (qc 16) (qc 17) (qc 18) (qc 35) (qc 38) (qc 41) (qc 44) (qc 36) (qc 37) (qc 39) (qc 40) (qc 42) (qc 43) (qc 45) (qc 46) (qc 49) (qc 50) (qc 51) (qc 52) (qc 53) (qc 54) (qc 55) (qc 56) (qc 57) qo (I 0) (I 1) (I 2) (J 0) (J 1) (L 0) (L 1) (I 3) (L 2) (A 0) (A 1) (I 4) (J 2) (I 5) (A 3) (A 2) (A 7) (A 4) (A 5) (A 8) (A 6) (A 24) (I 10) (A 16) (A 17) (I 11) (A 18) (A 19) (I 12) (A 20) (A 21) (I 13) (A 22) (A 23) (I 14) (A 25) (A 26) (A 28) (A 29) (A 27) (A 30) (A 31) (A 32) o (xs (n + 1)) (xs (n + 2)) (xs (n + 3)) (0 : Int32) R1 R2 R3 R4 R5 R6 R7 R8 R9 R10 R11 R12 R13 R14 R15 e1 _) kc_Law_hour ks_Law_hour tt_441 ⟨by decide, by decide⟩ rfl rfl hP hK hD hS hA [0, 1, 2, 3, 4, 5, 8, 6, 7, 9, 10, 12, 11, 13, 17, 14, 15, 18, 16, 47, 34, 35, 36, 37, 38, 39, 40, 41, 42, 43, 44, 45, 46, 48, 49, 50, 52, 53, 54, 51, 55, 56, 57, 88] rfl (by decide +kernel) rfl [some 0, some 1, some 2, some 3, some 4, some 5, some 7, some 8, some 6, some 9, some 10, some 12, some 11, some 13, some 15, some 16, some 18, some 14, some 17, none, none, none, none, none, none, none, none, none, none, none, none, none, none, none, some 20, some 21, some 22, some 23, some 24, some 25, some 26, some 27, some 28, some 29, some 30, some 31, some 32, some 19, some 33, some 34, some 35, some 39, some 36, some 37, some 38, some 40, some 41, some 42, none, none, none, none, none, none, none, none, none, none, none, none, none, none, none, none, none, none, none, none, none, none, none, none, none, none, none, none, none, none, some 43] (by decide +kernel) rfl rfl hl.1 (Nat.le_of_ble_eq_true rfl) rfl nd_Law_law_476 ⟨by show _ ≤ 601024; omega, by show _ ≤ 7293034; omega⟩ (fun H locs hP hD hS => ?_)
    refine W.widen (k := 400 + n) (n := 20000 + 6 * n) (by omega) (by omega) ?_
    refine lv_istore (lv' := [(5, .int 0), (4, .int (nI n)), (3, .ref qo), (2, .ref (qm 0)), (1, .ref (qc 0)), (0, .ref b)]) hx hb nd_Law_law_479 hl (by decide) rfl (fun ls hl => ?_)
    refine lv_aload_n hx hb nd_Law_law_481 rfl (lv_at hl 3 rfl) ?_
    refine lv_aload_n hx hb nd_Law_law_482 rfl (lv_at hl 5 rfl) ?_
    refine lv_iload hx hb nd_Law_law_483 (lv_at hl 1 rfl) ?_
    refine lv_iconst (v := 1) hx hb nd_Law_law_485 (by decide) ?_
    refine lv_iadd hx hb nd_Law_law_486 ?_
    refine k_sld (n := n) (j := 1) hx hb hX hbl hbA hS (k_sidx rfl) (by omega) hL nd_Law_law_487 ?_
    refine lv_aload_n hx hb nd_Law_law_488 rfl (lv_at hl 5 rfl) ?_
    refine lv_iload hx hb nd_Law_law_489 (lv_at hl 1 rfl) ?_
    refine lv_iconst (v := 2) hx hb nd_Law_law_491 (by decide) ?_
    refine lv_iadd hx hb nd_Law_law_492 ?_
    refine k_sld (n := n) (j := 2) hx hb hX hbl hbA hS (k_sidx rfl) (by omega) hL nd_Law_law_493 ?_
    refine lv_aload_n hx hb nd_Law_law_494 rfl (lv_at hl 5 rfl) ?_
    refine lv_iload hx hb nd_Law_law_495 (lv_at hl 1 rfl) ?_
    refine lv_iconst (v := 3) hx hb nd_Law_law_497 (by decide) ?_
    refine lv_iadd hx hb nd_Law_law_498 ?_
    refine k_sld (n := n) (j := 3) hx hb hX hbl hbA hS (k_sidx rfl) (by omega) hL nd_Law_law_499 ?_
    refine k_mVI (w2 := wA qc qm qo ca (va_up I 0 R14) (va_up (va_up (va_up J 0 R1) 1 R3) 2 R6) (va_up (va_up (va_up (va_up (va_up (va_up (va_up A 8 R7) 24 R8) 29 R9) 28 R10) 30 R11) 31 R12) 32 R13) (va_up (va_up (va_up L 0 R2) 1 R4) 2 R5) (va_up (va_up i 0 S1) 6 S7) (va_up (va_up (va_up a 11 S4) 16 S5) 15 S6) (va_up (va_up l9 0 S2) 2 S3) R15) (As := [.int (xs (n + 1)), .int (xs (n + 2)), .int (xs (n + 3))]) (rest := []) (r := S0) hx hb hml hown hts (cn_Model_hour l D ca (qm 0) (qm 1) (qm 2) (qm 3) (qm 4) (qm 5) (qm 6) (qm 7) (qm 8) (qm 9) (qm 10) (qm 11) (qm 12) (qm 13) (qm 14) (qm 15) (qm 16) (qm 17) (qm 18) (qm 19) (qm 20) (qm 21) (qm 22) (qm 23) (qm 24) (i 0) (i 1) (i 2) (i 3) (i 4) (i 5) (i 6) (i 7) (l9 0) (l9 2) (a 0) (a 1) (a 3) (a 2) (a 6) (a 5) (a 4) (a 7) (a 8) (a 11) (a 9) (a 10) (a 12) (a 13) (a 15) (a 16) (a 14) (xs (n + 1)) (xs (n + 2)) (xs (n + 3)) S0 S1 S2 S3 S4 S5 S6 S7 e2 _) kc_Model_hour kv_Model_hour tt_858 ⟨by decide, by decide⟩ rfl rfl hP hK hD hS hA [63, 64, 66, 68, 69, 71, 70, 74, 73, 72, 75, 76, 79, 77, 78, 80, 81, 83, 84, 82] rfl (by decide +kernel) rfl [none, none, none, none, none, none, none, none, none, none, none, none, none, none, none, none, none, none, none, none, none, none, none, none, none, none, none, none, none, none, none, none, none, none, none, none, none, none, none, none, none, none, none, none, none, none, none, none, none, none, none, none, none, none, none, none, none, none, none, none, none, none, none, some 0, some 1, none, some 2, none, some 3, some 4, some 6, some 5, some 9, some 8, some 7, some 10, some 11, some 13, some 14, some 12, some 15, some 16, some 19, some 17, some 18, none, none, none, none] (by decide +kernel) rfl 0 rfl rfl rfl rfl hl.1 (Nat.le_of_ble_eq_true rfl) rfl nd_Law_law_500 ⟨by show _ ≤ 601024; omega, by show _ ≤ 7293034; omega⟩ (fun H locs hP hD hS => ?_)
    refine lv_istore (lv' := [(6, .int S0), (5, .int 0), (4, .int (nI n)), (3, .ref qo), (2, .ref (qm 0)), (1, .ref (qc 0)), (0, .ref b)]) hx hb nd_Law_law_503 hl (by decide) rfl (fun ls hl => ?_)
    refine lv_aload_n hx hb nd_Law_law_505 rfl (lv_at hl 4 rfl) ?_
    refine k_rVI (As := []) (rest := []) (r := S1) hx hb hml hown hts (cn_Model_thrown l D ca (qm 0) (qm 1) (qm 2) (qm 3) (qm 4) (qm 5) (qm 6) (qm 7) (qm 8) (qm 9) (qm 10) (qm 11) (qm 12) (qm 13) (qm 14) (qm 15) (qm 16) (qm 17) (qm 18) (qm 19) (qm 20) (qm 21) (qm 22) (qm 23) (qm 24) ((va_up (va_up i 0 S1) 6 S7) 0) ((va_up (va_up i 0 S1) 6 S7) 1) ((va_up (va_up i 0 S1) 6 S7) 2) ((va_up (va_up i 0 S1) 6 S7) 3) ((va_up (va_up i 0 S1) 6 S7) 4) ((va_up (va_up i 0 S1) 6 S7) 5) ((va_up (va_up i 0 S1) 6 S7) 6) ((va_up (va_up i 0 S1) 6 S7) 7) S1 rfl) kc_Model_thrown kv_Model_thrown tt_820 ⟨by decide, by decide⟩ rfl rfl hP hK [63] rfl 0 rfl rfl rfl rfl hl.1 (Nat.le_of_ble_eq_true rfl) rfl nd_Law_law_506 ⟨by show _ ≤ 601024; omega, by show _ ≤ 7293034; omega⟩ ?_
    refine lv_iload hx hb nd_Law_law_509 (lv_at hl 1 rfl) ?_
    refine lv_icmp_eq (tgt := 516) hx hb nd_Law_law_511 (by decide) (fun c1 => ?_) (fun c1 => ?_)
    rotate_left
    · exact absurd et c1
    refine lv_iload hx hb nd_Law_law_516 (lv_at hl 1 rfl) ?_
    refine lv_if_ne (tgt := 533) hx hb nd_Law_law_518 (by decide) (fun c2 => ?_) (fun c2 => ?_)
    · exact absurd rfl c2
    refine lv_aload_n hx hb nd_Law_law_521 rfl (lv_at hl 3 rfl) ?_
    refine lv_iconst (v := 0) hx hb nd_Law_law_522 (by decide) ?_
    refine va_lald hx hb hK hP 88 1 rfl rfl (by unfold vp_in; decide) nd_Law_law_523 ?_
    refine lv_iload hx hb nd_Law_law_524 (lv_at hl 0 rfl) ?_
    refine lv_i2l hx hb nd_Law_law_526 rfl ?_
    refine W.lcmp hx hb nd_Law_law_527 ?_
    refine lv_if_eq (tgt := 533) hx hb nd_Law_law_528 (by decide) (fun c3 => ?_) (fun c3 => ?_)
    rotate_left
    · exact absurd ea c3
    refine lv_goto (tgt := 1452) hx hb nd_Law_law_533 (by decide) ?_
    refine W.widen (k := 400 + n + 1) (n := 20000 + 6 * n + 6) (by omega) (by omega) ?_
    exact hnext _ _ _ _ _ _ _ _ _ _ _ hRel hP hD hS (lv_sub hl [2, 3, 4, 5, 6] rfl)
  ·
    refine lv_aload_n hx hb nd_Law_law_456 rfl (lv_at hl 3 rfl) ?_
    refine lv_aload_n hx hb nd_Law_law_457 rfl (lv_at hl 4 rfl) ?_
    refine lv_iload hx hb nd_Law_law_458 (lv_at hl 0 rfl) ?_
    refine lv_iconst (v := 1) hx hb nd_Law_law_460 (by decide) ?_
    refine lv_iadd hx hb nd_Law_law_461 ?_
    refine k_sld (n := n) (j := 1) hx hb hX hbl hbA hS (k_sidx rfl) (by omega) hL nd_Law_law_462 ?_
    refine lv_aload_n hx hb nd_Law_law_463 rfl (lv_at hl 4 rfl) ?_
    refine lv_iload hx hb nd_Law_law_464 (lv_at hl 0 rfl) ?_
    refine lv_iconst (v := 2) hx hb nd_Law_law_466 (by decide) ?_
    refine lv_iadd hx hb nd_Law_law_467 ?_
    refine k_sld (n := n) (j := 2) hx hb hX hbl hbA hS (k_sidx rfl) (by omega) hL nd_Law_law_468 ?_
    refine lv_aload_n hx hb nd_Law_law_469 rfl (lv_at hl 4 rfl) ?_
    refine lv_iload hx hb nd_Law_law_470 (lv_at hl 0 rfl) ?_
    refine lv_iconst (v := 3) hx hb nd_Law_law_472 (by decide) ?_
    refine lv_iadd hx hb nd_Law_law_473 ?_
    refine k_sld (n := n) (j := 3) hx hb hX hbl hbA hS (k_sidx rfl) (by omega) hL nd_Law_law_474 ?_
    refine lv_aload_n hx hb nd_Law_law_475 rfl (lv_at hl 1 rfl) ?_
    refine k_mSWX (w2 := wA qc qm qo ca I J A L i a l9 o) (As := [.ref (qc 0), .int (xs (n + 1)), .int (xs (n + 2)), .int (xs (n + 3)), .ref qo]) (rest := []) (r := 1) hx hb hml hown hts (hx_Law_hour_2 l hlt D ca (qc 0) (qc 1) (qc 19) (qc 34) (qc 47) (qc 48) (qc 58) (qc 2) (qc 5) (qc 9) (qc 13) (qc 3) (qc 4) (qc 6) (qc 7) (qc 8) (qc 10) (qc 11) (qc 12) (qc 14) (qc 15) (qc 16) (qc 17) (qc 18) (qc 35) (qc 38) (qc 41) (qc 44) (qc 36) (qc 37) (qc 39) (qc 40) (qc 42) (qc 43) (qc 45) (qc 46) (qc 49) (qc 50) (qc 51) (qc 52) (qc 53) (qc 54) (qc 55) (qc 56) (qc 57) qo (I 0) (I 1) (I 2) (J 0) (J 1) (L 0) (L 1) (I 3) (L 2) (A 0) (A 1) (I 4) (J 2) (I 5) (A 3) (A 2) (A 7) (A 4) (A 5) (A 8) (A 6) (A 24) (I 10) (A 16) (A 17) (I 11) (A 18) (A 19) (I 12) (A 20) (A 21) (I 13) (A 22) (A 23) (I 14) (A 25) (A 26) (A 28) (A 29) (A 27) (A 30) (A 31) (A 32) o (xs (n + 1)) (xs (n + 2)) (xs (n + 3)) e1 _) kc_Law_hour ks_Law_hour tt_441 ⟨by decide, by decide⟩ rfl rfl hP hK hD hS hA hev [0, 1, 2, 3, 4, 5, 8, 6, 7, 9, 10, 12, 11, 13, 17, 14, 15, 18, 16, 47, 34, 35, 36, 37, 38, 39, 40, 41, 42, 43, 44, 45, 46, 48, 49, 50, 52, 53, 54, 51, 55, 56, 57, 88] rfl (by decide +kernel) rfl [some 0, some 1, some 2, some 3, some 4, some 5, some 7, some 8, some 6, some 9, some 10, some 12, some 11, some 13, some 15, some 16, some 18, some 14, some 17, none, none, none, none, none, none, none, none, none, none, none, none, none, none, none, some 20, some 21, some 22, some 23, some 24, some 25, some 26, some 27, some 28, some 29, some 30, some 31, some 32, some 19, some 33, some 34, some 35, some 39, some 36, some 37, some 38, some 40, some 41, some 42, none, none, none, none, none, none, none, none, none, none, none, none, none, none, none, none, none, none, none, none, none, none, none, none, none, none, none, none, none, none, some 43] (by decide +kernel) rfl rfl hl.1 (Nat.le_of_ble_eq_true rfl) rfl nd_Law_law_476 ⟨by show _ ≤ 601024; omega, by show _ ≤ 7293034; omega⟩ (fun H locs hP hD hS => ?_)
    refine W.widen (k := 400 + n + 1) (n := 20000 + 6 * n + 6) (by omega) (by omega) ?_
    refine lv_istore (lv' := [(5, .int 1), (4, .int (nI n)), (3, .ref qo), (2, .ref (qm 0)), (1, .ref (qc 0)), (0, .ref b)]) hx hb nd_Law_law_479 hl (by decide) rfl (fun ls hl => ?_)
    refine lv_aload_n hx hb nd_Law_law_481 rfl (lv_at hl 3 rfl) ?_
    refine lv_aload_n hx hb nd_Law_law_482 rfl (lv_at hl 5 rfl) ?_
    refine lv_iload hx hb nd_Law_law_483 (lv_at hl 1 rfl) ?_
    refine lv_iconst (v := 1) hx hb nd_Law_law_485 (by decide) ?_
    refine lv_iadd hx hb nd_Law_law_486 ?_
    refine k_sld (n := n) (j := 1) hx hb hX hbl hbA hS (k_sidx rfl) (by omega) hL nd_Law_law_487 ?_
    refine lv_aload_n hx hb nd_Law_law_488 rfl (lv_at hl 5 rfl) ?_
    refine lv_iload hx hb nd_Law_law_489 (lv_at hl 1 rfl) ?_
    refine lv_iconst (v := 2) hx hb nd_Law_law_491 (by decide) ?_
    refine lv_iadd hx hb nd_Law_law_492 ?_
    refine k_sld (n := n) (j := 2) hx hb hX hbl hbA hS (k_sidx rfl) (by omega) hL nd_Law_law_493 ?_
    refine lv_aload_n hx hb nd_Law_law_494 rfl (lv_at hl 5 rfl) ?_
    refine lv_iload hx hb nd_Law_law_495 (lv_at hl 1 rfl) ?_
    refine lv_iconst (v := 3) hx hb nd_Law_law_497 (by decide) ?_
    refine lv_iadd hx hb nd_Law_law_498 ?_
    refine k_sld (n := n) (j := 3) hx hb hX hbl hbA hS (k_sidx rfl) (by omega) hL nd_Law_law_499 ?_
    refine k_mVI (w2 := wA qc qm qo ca I J A L (va_up (va_up i 0 S1) 6 S7) (va_up (va_up (va_up a 11 S4) 16 S5) 15 S6) (va_up (va_up l9 0 S2) 2 S3) o) (As := [.int (xs (n + 1)), .int (xs (n + 2)), .int (xs (n + 3))]) (rest := []) (r := S0) hx hb hml hown hts (cn_Model_hour l D ca (qm 0) (qm 1) (qm 2) (qm 3) (qm 4) (qm 5) (qm 6) (qm 7) (qm 8) (qm 9) (qm 10) (qm 11) (qm 12) (qm 13) (qm 14) (qm 15) (qm 16) (qm 17) (qm 18) (qm 19) (qm 20) (qm 21) (qm 22) (qm 23) (qm 24) (i 0) (i 1) (i 2) (i 3) (i 4) (i 5) (i 6) (i 7) (l9 0) (l9 2) (a 0) (a 1) (a 3) (a 2) (a 6) (a 5) (a 4) (a 7) (a 8) (a 11) (a 9) (a 10) (a 12) (a 13) (a 15) (a 16) (a 14) (xs (n + 1)) (xs (n + 2)) (xs (n + 3)) S0 S1 S2 S3 S4 S5 S6 S7 e2 _) kc_Model_hour kv_Model_hour tt_858 ⟨by decide, by decide⟩ rfl rfl hP hK hD hS hA [63, 64, 66, 68, 69, 71, 70, 74, 73, 72, 75, 76, 79, 77, 78, 80, 81, 83, 84, 82] rfl (by decide +kernel) rfl [none, none, none, none, none, none, none, none, none, none, none, none, none, none, none, none, none, none, none, none, none, none, none, none, none, none, none, none, none, none, none, none, none, none, none, none, none, none, none, none, none, none, none, none, none, none, none, none, none, none, none, none, none, none, none, none, none, none, none, none, none, none, none, some 0, some 1, none, some 2, none, some 3, some 4, some 6, some 5, some 9, some 8, some 7, some 10, some 11, some 13, some 14, some 12, some 15, some 16, some 19, some 17, some 18, none, none, none, none] (by decide +kernel) rfl 0 rfl rfl rfl rfl hl.1 (Nat.le_of_ble_eq_true rfl) rfl nd_Law_law_500 ⟨by show _ ≤ 601024; omega, by show _ ≤ 7293034; omega⟩ (fun H locs hP hD hS => ?_)
    refine lv_istore (lv' := [(6, .int S0), (5, .int 1), (4, .int (nI n)), (3, .ref qo), (2, .ref (qm 0)), (1, .ref (qc 0)), (0, .ref b)]) hx hb nd_Law_law_503 hl (by decide) rfl (fun ls hl => ?_)
    refine lv_aload_n hx hb nd_Law_law_505 rfl (lv_at hl 4 rfl) ?_
    refine k_rVI (As := []) (rest := []) (r := S1) hx hb hml hown hts (cn_Model_thrown l D ca (qm 0) (qm 1) (qm 2) (qm 3) (qm 4) (qm 5) (qm 6) (qm 7) (qm 8) (qm 9) (qm 10) (qm 11) (qm 12) (qm 13) (qm 14) (qm 15) (qm 16) (qm 17) (qm 18) (qm 19) (qm 20) (qm 21) (qm 22) (qm 23) (qm 24) ((va_up (va_up i 0 S1) 6 S7) 0) ((va_up (va_up i 0 S1) 6 S7) 1) ((va_up (va_up i 0 S1) 6 S7) 2) ((va_up (va_up i 0 S1) 6 S7) 3) ((va_up (va_up i 0 S1) 6 S7) 4) ((va_up (va_up i 0 S1) 6 S7) 5) ((va_up (va_up i 0 S1) 6 S7) 6) ((va_up (va_up i 0 S1) 6 S7) 7) S1 rfl) kc_Model_thrown kv_Model_thrown tt_820 ⟨by decide, by decide⟩ rfl rfl hP hK [63] rfl 0 rfl rfl rfl rfl hl.1 (Nat.le_of_ble_eq_true rfl) rfl nd_Law_law_506 ⟨by show _ ≤ 601024; omega, by show _ ≤ 7293034; omega⟩ ?_
    refine lv_iload hx hb nd_Law_law_509 (lv_at hl 1 rfl) ?_
    refine lv_icmp_eq (tgt := 516) hx hb nd_Law_law_511 (by decide) (fun c4 => ?_) (fun c4 => ?_)
    rotate_left
    · exact absurd et c4
    refine lv_iload hx hb nd_Law_law_516 (lv_at hl 1 rfl) ?_
    refine lv_if_ne (tgt := 533) hx hb nd_Law_law_518 (by decide) (fun c5 => ?_) (fun c5 => ?_)
    rotate_left
    · exact absurd c5 (by decide)
    refine lv_goto (tgt := 1452) hx hb nd_Law_law_533 (by decide) ?_
    refine W.widen (k := 400 + n + 1) (n := 20000 + 6 * n + 6) (by omega) (by omega) ?_
    exact hnext _ _ _ _ _ _ _ _ _ _ _ hRel hP hD hS (lv_sub hl [2, 3, 4, 5, 6] rfl)
  ·
    refine lv_aload_n hx hb nd_Law_law_456 rfl (lv_at hl 3 rfl) ?_
    refine lv_aload_n hx hb nd_Law_law_457 rfl (lv_at hl 4 rfl) ?_
    refine lv_iload hx hb nd_Law_law_458 (lv_at hl 0 rfl) ?_
    refine lv_iconst (v := 1) hx hb nd_Law_law_460 (by decide) ?_
    refine lv_iadd hx hb nd_Law_law_461 ?_
    refine k_sld (n := n) (j := 1) hx hb hX hbl hbA hS (k_sidx rfl) (by omega) hL nd_Law_law_462 ?_
    refine lv_aload_n hx hb nd_Law_law_463 rfl (lv_at hl 4 rfl) ?_
    refine lv_iload hx hb nd_Law_law_464 (lv_at hl 0 rfl) ?_
    refine lv_iconst (v := 2) hx hb nd_Law_law_466 (by decide) ?_
    refine lv_iadd hx hb nd_Law_law_467 ?_
    refine k_sld (n := n) (j := 2) hx hb hX hbl hbA hS (k_sidx rfl) (by omega) hL nd_Law_law_468 ?_
    refine lv_aload_n hx hb nd_Law_law_469 rfl (lv_at hl 4 rfl) ?_
    refine lv_iload hx hb nd_Law_law_470 (lv_at hl 0 rfl) ?_
    refine lv_iconst (v := 3) hx hb nd_Law_law_472 (by decide) ?_
    refine lv_iadd hx hb nd_Law_law_473 ?_
    refine k_sld (n := n) (j := 3) hx hb hX hbl hbA hS (k_sidx rfl) (by omega) hL nd_Law_law_474 ?_
    refine lv_aload_n hx hb nd_Law_law_475 rfl (lv_at hl 1 rfl) ?_
    refine k_mSWX (w2 := wA qc qm qo ca I J A L i a l9 o) (As := [.ref (qc 0), .int (xs (n + 1)), .int (xs (n + 2)), .int (xs (n + 3)), .ref qo]) (rest := []) (r := 2) hx hb hml hown hts (hx_Law_hour_3 l hlt D ca (qc 0) (qc 1) (qc 19) (qc 34) (qc 47) (qc 48) (qc 58) (qc 2) (qc 5) (qc 9) (qc 13) (qc 3) (qc 4) (qc 6) (qc 7) (qc 8) (qc 10) (qc 11) (qc 12) (qc 14) (qc 15) (qc 16) (qc 17) (qc 18) (qc 35) (qc 38) (qc 41) (qc 44) (qc 36) (qc 37) (qc 39) (qc 40) (qc 42) (qc 43) (qc 45) (qc 46) (qc 49) (qc 50) (qc 51) (qc 52) (qc 53) (qc 54) (qc 55) (qc 56) (qc 57) qo (I 0) (I 1) (I 2) (J 0) (J 1) (L 0) (L 1) (I 3) (L 2) (A 0) (A 1) (I 4) (J 2) (I 5) (A 3) (A 2) (A 7) (A 4) (A 5) (A 8) (A 6) (A 24) (I 10) (A 16) (A 17) (I 11) (A 18) (A 19) (I 12) (A 20) (A 21) (I 13) (A 22) (A 23) (I 14) (A 25) (A 26) (A 28) (A 29) (A 27) (A 30) (A 31) (A 32) o (xs (n + 1)) (xs (n + 2)) (xs (n + 3)) e1 _) kc_Law_hour ks_Law_hour tt_441 ⟨by decide, by decide⟩ rfl rfl hP hK hD hS hA hev [0, 1, 2, 3, 4, 5, 8, 6, 7, 9, 10, 12, 11, 13, 17, 14, 15, 18, 16, 47, 34, 35, 36, 37, 38, 39, 40, 41, 42, 43, 44, 45, 46, 48, 49, 50, 52, 53, 54, 51, 55, 56, 57, 88] rfl (by decide +kernel) rfl [some 0, some 1, some 2, some 3, some 4, some 5, some 7, some 8, some 6, some 9, some 10, some 12, some 11, some 13, some 15, some 16, some 18, some 14, some 17, none, none, none, none, none, none, none, none, none, none, none, none, none, none, none, some 20, some 21, some 22, some 23, some 24, some 25, some 26, some 27, some 28, some 29, some 30, some 31, some 32, some 19, some 33, some 34, some 35, some 39, some 36, some 37, some 38, some 40, some 41, some 42, none, none, none, none, none, none, none, none, none, none, none, none, none, none, none, none, none, none, none, none, none, none, none, none, none, none, none, none, none, none, some 43] (by decide +kernel) rfl rfl hl.1 (Nat.le_of_ble_eq_true rfl) rfl nd_Law_law_476 ⟨by show _ ≤ 601024; omega, by show _ ≤ 7293034; omega⟩ (fun H locs hP hD hS => ?_)
    refine W.widen (k := 400 + n + 1) (n := 20000 + 6 * n + 6) (by omega) (by omega) ?_
    refine lv_istore (lv' := [(5, .int 2), (4, .int (nI n)), (3, .ref qo), (2, .ref (qm 0)), (1, .ref (qc 0)), (0, .ref b)]) hx hb nd_Law_law_479 hl (by decide) rfl (fun ls hl => ?_)
    refine lv_aload_n hx hb nd_Law_law_481 rfl (lv_at hl 3 rfl) ?_
    refine lv_aload_n hx hb nd_Law_law_482 rfl (lv_at hl 5 rfl) ?_
    refine lv_iload hx hb nd_Law_law_483 (lv_at hl 1 rfl) ?_
    refine lv_iconst (v := 1) hx hb nd_Law_law_485 (by decide) ?_
    refine lv_iadd hx hb nd_Law_law_486 ?_
    refine k_sld (n := n) (j := 1) hx hb hX hbl hbA hS (k_sidx rfl) (by omega) hL nd_Law_law_487 ?_
    refine lv_aload_n hx hb nd_Law_law_488 rfl (lv_at hl 5 rfl) ?_
    refine lv_iload hx hb nd_Law_law_489 (lv_at hl 1 rfl) ?_
    refine lv_iconst (v := 2) hx hb nd_Law_law_491 (by decide) ?_
    refine lv_iadd hx hb nd_Law_law_492 ?_
    refine k_sld (n := n) (j := 2) hx hb hX hbl hbA hS (k_sidx rfl) (by omega) hL nd_Law_law_493 ?_
    refine lv_aload_n hx hb nd_Law_law_494 rfl (lv_at hl 5 rfl) ?_
    refine lv_iload hx hb nd_Law_law_495 (lv_at hl 1 rfl) ?_
    refine lv_iconst (v := 3) hx hb nd_Law_law_497 (by decide) ?_
    refine lv_iadd hx hb nd_Law_law_498 ?_
    refine k_sld (n := n) (j := 3) hx hb hX hbl hbA hS (k_sidx rfl) (by omega) hL nd_Law_law_499 ?_
    refine k_mVI (w2 := wA qc qm qo ca I J A L (va_up (va_up i 0 S1) 6 S7) (va_up (va_up (va_up a 11 S4) 16 S5) 15 S6) (va_up (va_up l9 0 S2) 2 S3) o) (As := [.int (xs (n + 1)), .int (xs (n + 2)), .int (xs (n + 3))]) (rest := []) (r := S0) hx hb hml hown hts (cn_Model_hour l D ca (qm 0) (qm 1) (qm 2) (qm 3) (qm 4) (qm 5) (qm 6) (qm 7) (qm 8) (qm 9) (qm 10) (qm 11) (qm 12) (qm 13) (qm 14) (qm 15) (qm 16) (qm 17) (qm 18) (qm 19) (qm 20) (qm 21) (qm 22) (qm 23) (qm 24) (i 0) (i 1) (i 2) (i 3) (i 4) (i 5) (i 6) (i 7) (l9 0) (l9 2) (a 0) (a 1) (a 3) (a 2) (a 6) (a 5) (a 4) (a 7) (a 8) (a 11) (a 9) (a 10) (a 12) (a 13) (a 15) (a 16) (a 14) (xs (n + 1)) (xs (n + 2)) (xs (n + 3)) S0 S1 S2 S3 S4 S5 S6 S7 e2 _) kc_Model_hour kv_Model_hour tt_858 ⟨by decide, by decide⟩ rfl rfl hP hK hD hS hA [63, 64, 66, 68, 69, 71, 70, 74, 73, 72, 75, 76, 79, 77, 78, 80, 81, 83, 84, 82] rfl (by decide +kernel) rfl [none, none, none, none, none, none, none, none, none, none, none, none, none, none, none, none, none, none, none, none, none, none, none, none, none, none, none, none, none, none, none, none, none, none, none, none, none, none, none, none, none, none, none, none, none, none, none, none, none, none, none, none, none, none, none, none, none, none, none, none, none, none, none, some 0, some 1, none, some 2, none, some 3, some 4, some 6, some 5, some 9, some 8, some 7, some 10, some 11, some 13, some 14, some 12, some 15, some 16, some 19, some 17, some 18, none, none, none, none] (by decide +kernel) rfl 0 rfl rfl rfl rfl hl.1 (Nat.le_of_ble_eq_true rfl) rfl nd_Law_law_500 ⟨by show _ ≤ 601024; omega, by show _ ≤ 7293034; omega⟩ (fun H locs hP hD hS => ?_)
    refine lv_istore (lv' := [(6, .int S0), (5, .int 2), (4, .int (nI n)), (3, .ref qo), (2, .ref (qm 0)), (1, .ref (qc 0)), (0, .ref b)]) hx hb nd_Law_law_503 hl (by decide) rfl (fun ls hl => ?_)
    refine lv_aload_n hx hb nd_Law_law_505 rfl (lv_at hl 4 rfl) ?_
    refine k_rVI (As := []) (rest := []) (r := S1) hx hb hml hown hts (cn_Model_thrown l D ca (qm 0) (qm 1) (qm 2) (qm 3) (qm 4) (qm 5) (qm 6) (qm 7) (qm 8) (qm 9) (qm 10) (qm 11) (qm 12) (qm 13) (qm 14) (qm 15) (qm 16) (qm 17) (qm 18) (qm 19) (qm 20) (qm 21) (qm 22) (qm 23) (qm 24) ((va_up (va_up i 0 S1) 6 S7) 0) ((va_up (va_up i 0 S1) 6 S7) 1) ((va_up (va_up i 0 S1) 6 S7) 2) ((va_up (va_up i 0 S1) 6 S7) 3) ((va_up (va_up i 0 S1) 6 S7) 4) ((va_up (va_up i 0 S1) 6 S7) 5) ((va_up (va_up i 0 S1) 6 S7) 6) ((va_up (va_up i 0 S1) 6 S7) 7) S1 rfl) kc_Model_thrown kv_Model_thrown tt_820 ⟨by decide, by decide⟩ rfl rfl hP hK [63] rfl 0 rfl rfl rfl rfl hl.1 (Nat.le_of_ble_eq_true rfl) rfl nd_Law_law_506 ⟨by show _ ≤ 601024; omega, by show _ ≤ 7293034; omega⟩ ?_
    refine lv_iload hx hb nd_Law_law_509 (lv_at hl 1 rfl) ?_
    refine lv_icmp_eq (tgt := 516) hx hb nd_Law_law_511 (by decide) (fun c6 => ?_) (fun c6 => ?_)
    rotate_left
    · exact absurd et c6
    refine lv_iload hx hb nd_Law_law_516 (lv_at hl 1 rfl) ?_
    refine lv_if_ne (tgt := 533) hx hb nd_Law_law_518 (by decide) (fun c7 => ?_) (fun c7 => ?_)
    rotate_left
    · exact absurd c7 (by decide)
    refine lv_goto (tgt := 1452) hx hb nd_Law_law_533 (by decide) ?_
    refine W.widen (k := 400 + n + 1) (n := 20000 + 6 * n + 6) (by omega) (by omega) ?_
    exact hnext _ _ _ _ _ _ _ _ _ _ _ hRel hP hD hS (lv_sub hl [2, 3, 4, 5, 6] rfl)
