set_option maxHeartbeats 8000000 in
set_option maxRecDepth 100000 in
theorem lc_layer {p : Program} {l : Launch} {e : Env} {s : State} {m : MethodId} {below : List Frame} {meth : Method} {c : Code} {D : va_G} {ca : Nat → ClassId} {b Ls : Nat} {xs : Nat → Int32} (C0 : lw_At p s m meth c b Ls xs) (hL : Ls ≤ 2560) (hlt : l.stackTraces = false) (hev0 : xt_ev s s.heap) (hK : va_K D vwCl (tyG ca) s) {Rel : (Nat → Int32) → (Nat → Int64) → (Nat → Nat → Int32) → (Nat → Nat → Int64) → (Nat → Int32) → (Nat → Nat → Int32) → (Nat → Nat → Int64) → Prop} {qc qm : Nat → Nat} {qo : Nat} {I : Nat → Int32} {J : Nat → Int64} {A : Nat → Nat → Int32} {L : Nat → Nat → Int64} {i : Nat → Int32} {a : Nat → Nat → Int32} {l9 : Nat → Nat → Int64} {o : Nat → Int64} {n : Nat} (hn : n + 5 ≤ Ls) {H : Heap} {locs : List Loc} {ls : Array Slot} (hP : va_P D vwCl (wA qc qm qo ca I J A L i a l9 o) H) (hD : va_D (fun q : Nat => s.heap.size ≤ q) (wA qc qm qo ca I J A L i a l9 o)) (hS : va_S (fun q : Nat => s.heap.size ≤ q) s.heap H locs) (hl : lv_has ls 8 [(4, .int (nI n)), (3, .ref qo), (2, .ref (qm 0)), (1, .ref (qc 0)), (0, .ref b)]) (hst : st_layer Rel I J A L i a l9 o (xs (n + 1))) (hnext : ∀ (I : Nat → Int32) (J : Nat → Int64) (A : Nat → Nat → Int32) (L : Nat → Nat → Int64) (i : Nat → Int32) (a : Nat → Nat → Int32) (l9 : Nat → Nat → Int64) (o : Nat → Int64) (H : Heap) (locs : List Loc) (ls : Array Slot), Rel I J A L i a l9 → va_P D vwCl (wA qc qm qo ca I J A L i a l9 o) H → va_D (fun q : Nat => s.heap.size ≤ q) (wA qc qm qo ca I J A L i a l9 o) → va_S (fun q : Nat => s.heap.size ≤ q) s.heap H locs → lv_has ls 8 [(4, .int (nI n)), (3, .ref qo), (2, .ref (qm 0)), (1, .ref (qc 0)), (0, .ref b)] → W p l e room_1 s m #[Value.ref b] below meth c H locs (400 + n + 1) (20000 + 6 * n + 6) (lw_Z below #[Value.ref b] s) (F0 m 1452 ls [])) : W p l e room_1 s m #[Value.ref b] below meth c H locs (400 + n) (20000 + 6 * n) (lw_Z below #[Value.ref b] s) (F0 m 562 ls []) := by
  obtain ⟨hx, hb, hr, hml, hown, hts0, hX, hbl, hlocks, hgv⟩ := C0
  have hts : ∀ w ∈ TT, w.before #[Value.ref b] s = true := fun w h => hts0 w (List.mem_filter.mp h).1
  have hA : ∀ q : Nat, s.heap.size ≤ q → (fun q : Nat => s.heap.size ≤ q) q := fun _ h => h
  have hbA : ¬ (fun q : Nat => s.heap.size ≤ q) b := Nat.not_le.mpr hbl
  have hown : s.vm.findClass nR_Law = some m.cls := hown
  have hev : xt_ev s H := k_evH hev0 hS
  unfold st_layer at hst
  rcases hst with ⟨R1, S0, S1, e1, e2, et, ea, hRel⟩ | ⟨S0, S1, e1, e2, et, hRel⟩
  ·
    refine lv_aload_n hx hb nd_Law_law_562 rfl (lv_at hl 3 rfl) ?_
    refine lv_aload_n hx hb nd_Law_law_563 rfl (lv_at hl 4 rfl) ?_
    refine lv_iload hx hb nd_Law_law_564 (lv_at hl 0 rfl) ?_
    refine lv_iconst (v := 1) hx hb nd_Law_law_566 (by decide) ?_
    refine lv_iadd hx hb nd_Law_law_567 ?_
    refine k_sld (n := n) (j := 1) hx hb hX hbl hbA hS (k_sidx rfl) (by omega) hL nd_Law_law_568 ?_
    refine lv_aload_n hx hb nd_Law_law_569 rfl (lv_at hl 1 rfl) ?_
    refine k_uSWI (w2 := wA qc qm qo ca I J A L i a l9 R1) (As := [.ref (qc 0), .int (xs (n + 1)), .ref qo]) (rest := []) (r := 0) hx hb hml hown hts (cn_Law_layer l D ca (qc 0) (qc 1) (qc 19) (qc 34) (qc 47) (qc 48) (qc 58) (qc 2) (qc 5) (qc 9) (qc 13) (qc 6) (qc 7) (qc 8) qo (I 0) (I 3) (L 2) (A 1) o (xs (n + 1)) (0 : Int32) R1 e1 _) kc_Law_layer ks_Law_layer tt_539 ⟨by decide, by decide⟩ rfl rfl hP hK hD hS hA [0, 1, 5, 8, 7, 88] rfl (by decide +kernel) rfl rfl rfl hl.1 (Nat.le_of_ble_eq_true rfl) rfl nd_Law_law_570 ⟨by show _ ≤ 601024; omega, by show _ ≤ 7293034; omega⟩ (fun H locs hP hD hS => ?_)
    refine W.widen (k := 400 + n) (n := 20000 + 6 * n) (by omega) (by omega) ?_
    refine lv_istore (lv' := [(5, .int 0), (4, .int (nI n)), (3, .ref qo), (2, .ref (qm 0)), (1, .ref (qc 0)), (0, .ref b)]) hx hb nd_Law_law_573 hl (by decide) rfl (fun ls hl => ?_)
    refine lv_aload_n hx hb nd_Law_law_575 rfl (lv_at hl 3 rfl) ?_
    refine lv_aload_n hx hb nd_Law_law_576 rfl (lv_at hl 5 rfl) ?_
    refine lv_iload hx hb nd_Law_law_577 (lv_at hl 1 rfl) ?_
    refine lv_iconst (v := 1) hx hb nd_Law_law_579 (by decide) ?_
    refine lv_iadd hx hb nd_Law_law_580 ?_
    refine k_sld (n := n) (j := 1) hx hb hX hbl hbA hS (k_sidx rfl) (by omega) hL nd_Law_law_581 ?_
    refine k_uVI (w2 := wA qc qm qo ca I J A L (va_up i 0 S1) a l9 R1) (As := [.int (xs (n + 1))]) (rest := []) (r := S0) hx hb hml hown hts (cn_Model_layer l D ca (qm 0) (qm 1) (qm 2) (qm 3) (qm 4) (qm 5) (qm 6) (qm 7) (qm 8) (qm 9) (qm 10) (qm 11) (qm 12) (qm 13) (qm 14) (qm 15) (qm 16) (qm 17) (qm 18) (qm 19) (qm 20) (qm 21) (qm 22) (qm 23) (qm 24) (i 0) (i 1) (i 2) (i 3) (i 4) (i 5) (i 6) (i 7) (l9 0) (a 1) (xs (n + 1)) S0 S1 e2 _) kc_Model_layer kv_Model_layer tt_928 ⟨by decide, by decide⟩ rfl rfl hP hK hD hS hA [63, 64, 69] rfl (by decide +kernel) rfl rfl 0 rfl rfl rfl rfl hl.1 (Nat.le_of_ble_eq_true rfl) rfl nd_Law_law_582 ⟨by show _ ≤ 601024; omega, by show _ ≤ 7293034; omega⟩ (fun H locs hP hD hS => ?_)
    refine lv_istore (lv' := [(6, .int S0), (5, .int 0), (4, .int (nI n)), (3, .ref qo), (2, .ref (qm 0)), (1, .ref (qc 0)), (0, .ref b)]) hx hb nd_Law_law_585 hl (by decide) rfl (fun ls hl => ?_)
    refine lv_aload_n hx hb nd_Law_law_587 rfl (lv_at hl 4 rfl) ?_
    refine k_rVI (As := []) (rest := []) (r := S1) hx hb hml hown hts (cn_Model_thrown l D ca (qm 0) (qm 1) (qm 2) (qm 3) (qm 4) (qm 5) (qm 6) (qm 7) (qm 8) (qm 9) (qm 10) (qm 11) (qm 12) (qm 13) (qm 14) (qm 15) (qm 16) (qm 17) (qm 18) (qm 19) (qm 20) (qm 21) (qm 22) (qm 23) (qm 24) ((va_up i 0 S1) 0) ((va_up i 0 S1) 1) ((va_up i 0 S1) 2) ((va_up i 0 S1) 3) ((va_up i 0 S1) 4) ((va_up i 0 S1) 5) ((va_up i 0 S1) 6) ((va_up i 0 S1) 7) S1 rfl) kc_Model_thrown kv_Model_thrown tt_820 ⟨by decide, by decide⟩ rfl rfl hP hK [63] rfl 0 rfl rfl rfl rfl hl.1 (Nat.le_of_ble_eq_true rfl) rfl nd_Law_law_588 ⟨by show _ ≤ 601024; omega, by show _ ≤ 7293034; omega⟩ ?_
    refine lv_iload hx hb nd_Law_law_591 (lv_at hl 1 rfl) ?_
    refine lv_icmp_eq (tgt := 598) hx hb nd_Law_law_593 (by decide) (fun c1 => ?_) (fun c1 => ?_)
    rotate_left
    · exact absurd et c1
    refine lv_iload hx hb nd_Law_law_598 (lv_at hl 1 rfl) ?_
    refine lv_if_ne (tgt := 615) hx hb nd_Law_law_600 (by decide) (fun c2 => ?_) (fun c2 => ?_)
    · exact absurd rfl c2
    refine lv_aload_n hx hb nd_Law_law_603 rfl (lv_at hl 3 rfl) ?_
    refine lv_iconst (v := 0) hx hb nd_Law_law_604 (by decide) ?_
    refine va_lald hx hb hK hP 88 1 rfl rfl (by unfold vp_in; decide) nd_Law_law_605 ?_
    refine lv_iload hx hb nd_Law_law_606 (lv_at hl 0 rfl) ?_
    refine lv_i2l hx hb nd_Law_law_608 rfl ?_
    refine W.lcmp hx hb nd_Law_law_609 ?_
    refine lv_if_eq (tgt := 615) hx hb nd_Law_law_610 (by decide) (fun c3 => ?_) (fun c3 => ?_)
    rotate_left
    · exact absurd ea c3
    refine lv_goto (tgt := 1452) hx hb nd_Law_law_615 (by decide) ?_
    refine W.widen (k := 400 + n + 1) (n := 20000 + 6 * n + 6) (by omega) (by omega) ?_
    exact hnext _ _ _ _ _ _ _ _ _ _ _ hRel hP hD hS (lv_sub hl [2, 3, 4, 5, 6] rfl)
  ·
    refine lv_aload_n hx hb nd_Law_law_562 rfl (lv_at hl 3 rfl) ?_
    refine lv_aload_n hx hb nd_Law_law_563 rfl (lv_at hl 4 rfl) ?_
    refine lv_iload hx hb nd_Law_law_564 (lv_at hl 0 rfl) ?_
    refine lv_iconst (v := 1) hx hb nd_Law_law_566 (by decide) ?_
    refine lv_iadd hx hb nd_Law_law_567 ?_
    refine k_sld (n := n) (j := 1) hx hb hX hbl hbA hS (k_sidx rfl) (by omega) hL nd_Law_law_568 ?_
    refine lv_aload_n hx hb nd_Law_law_569 rfl (lv_at hl 1 rfl) ?_
    refine k_uSWX (w2 := wA qc qm qo ca I J A L i a l9 o) (As := [.ref (qc 0), .int (xs (n + 1)), .ref qo]) (rest := []) (r := 1) hx hb hml hown hts (hx_Law_layer_1 l hlt D ca (qc 0) (qc 1) (qc 19) (qc 34) (qc 47) (qc 48) (qc 58) (qc 2) (qc 5) (qc 9) (qc 13) (qc 6) (qc 7) (qc 8) qo (I 0) (I 3) (L 2) (A 1) o (xs (n + 1)) e1 _) kc_Law_layer ks_Law_layer tt_539 ⟨by decide, by decide⟩ rfl rfl hP hK hD hS hA hev [0, 1, 5, 8, 7, 88] rfl (by decide +kernel) rfl rfl rfl hl.1 (Nat.le_of_ble_eq_true rfl) rfl nd_Law_law_570 ⟨by show _ ≤ 601024; omega, by show _ ≤ 7293034; omega⟩ (fun H locs hP hD hS => ?_)
    refine W.widen (k := 400 + n + 1) (n := 20000 + 6 * n + 6) (by omega) (by omega) ?_
    refine lv_istore (lv' := [(5, .int 1), (4, .int (nI n)), (3, .ref qo), (2, .ref (qm 0)), (1, .ref (qc 0)), (0, .ref b)]) hx hb nd_Law_law_573 hl (by decide) rfl (fun ls hl => ?_)
    refine lv_aload_n hx hb nd_Law_law_575 rfl (lv_at hl 3 rfl) ?_
    refine lv_aload_n hx hb nd_Law_law_576 rfl (lv_at hl 5 rfl) ?_
    refine lv_iload hx hb nd_Law_law_577 (lv_at hl 1 rfl) ?_
    refine lv_iconst (v := 1) hx hb nd_Law_law_579 (by decide) ?_
    refine lv_iadd hx hb nd_Law_law_580 ?_
    refine k_sld (n := n) (j := 1) hx hb hX hbl hbA hS (k_sidx rfl) (by omega) hL nd_Law_law_581 ?_
    refine k_uVI (w2 := wA qc qm qo ca I J A L (va_up i 0 S1) a l9 o) (As := [.int (xs (n + 1))]) (rest := []) (r := S0) hx hb hml hown hts (cn_Model_layer l D ca (qm 0) (qm 1) (qm 2) (qm 3) (qm 4) (qm 5) (qm 6) (qm 7) (qm 8) (qm 9) (qm 10) (qm 11) (qm 12) (qm 13) (qm 14) (qm 15) (qm 16) (qm 17) (qm 18) (qm 19) (qm 20) (qm 21) (qm 22) (qm 23) (qm 24) (i 0) (i 1) (i 2) (i 3) (i 4) (i 5) (i 6) (i 7) (l9 0) (a 1) (xs (n + 1)) S0 S1 e2 _) kc_Model_layer kv_Model_layer tt_928 ⟨by decide, by decide⟩ rfl rfl hP hK hD hS hA [63, 64, 69] rfl (by decide +kernel) rfl rfl 0 rfl rfl rfl rfl hl.1 (Nat.le_of_ble_eq_true rfl) rfl nd_Law_law_582 ⟨by show _ ≤ 601024; omega, by show _ ≤ 7293034; omega⟩ (fun H locs hP hD hS => ?_)
    refine lv_istore (lv' := [(6, .int S0), (5, .int 1), (4, .int (nI n)), (3, .ref qo), (2, .ref (qm 0)), (1, .ref (qc 0)), (0, .ref b)]) hx hb nd_Law_law_585 hl (by decide) rfl (fun ls hl => ?_)
    refine lv_aload_n hx hb nd_Law_law_587 rfl (lv_at hl 4 rfl) ?_
    refine k_rVI (As := []) (rest := []) (r := S1) hx hb hml hown hts (cn_Model_thrown l D ca (qm 0) (qm 1) (qm 2) (qm 3) (qm 4) (qm 5) (qm 6) (qm 7) (qm 8) (qm 9) (qm 10) (qm 11) (qm 12) (qm 13) (qm 14) (qm 15) (qm 16) (qm 17) (qm 18) (qm 19) (qm 20) (qm 21) (qm 22) (qm 23) (qm 24) ((va_up i 0 S1) 0) ((va_up i 0 S1) 1) ((va_up i 0 S1) 2) ((va_up i 0 S1) 3) ((va_up i 0 S1) 4) ((va_up i 0 S1) 5) ((va_up i 0 S1) 6) ((va_up i 0 S1) 7) S1 rfl) kc_Model_thrown kv_Model_thrown tt_820 ⟨by decide, by decide⟩ rfl rfl hP hK [63] rfl 0 rfl rfl rfl rfl hl.1 (Nat.le_of_ble_eq_true rfl) rfl nd_Law_law_588 ⟨by show _ ≤ 601024; omega, by show _ ≤ 7293034; omega⟩ ?_
    refine lv_iload hx hb nd_Law_law_591 (lv_at hl 1 rfl) ?_
    refine lv_icmp_eq (tgt := 598) hx hb nd_Law_law_593 (by decide) (fun c4 => ?_) (fun c4 => ?_)
    rotate_left
    · exact absurd et c4
    refine lv_iload hx hb nd_Law_law_598 (lv_at hl 1 rfl) ?_
    refine lv_if_ne (tgt := 615) hx hb nd_Law_law_600 (by decide) (fun c5 => ?_) (fun c5 => ?_)
    rotate_left
    · exact absurd c5 (by decide)
    refine lv_goto (tgt := 1452) hx hb nd_Law_law_615 (by decide) ?_
    refine W.widen (k := 400 + n + 1) (n := 20000 + 6 * n + 6) (by omega) (by omega) ?_
    exact hnext _ _ _ _ _ _ _ _ _ _ _ hRel hP hD hS (lv_sub hl [2, 3, 4, 5, 6] rfl)
set_option maxHeartbeats 8000000 in
set_option maxRecDepth 100000 in
theorem lc_held {p : Program} {l : Launch} {e : Env} {s : State} {m : MethodId} {below : List Frame} {meth : Method} {c : Code} {D : va_G} {ca : Nat → ClassId} {b Ls : Nat} {xs : Nat → Int32} (C0 : lw_At p s m meth c b Ls xs) (hL : Ls ≤ 2560) (hlt : l.stackTraces = false) (hev0 : xt_ev s s.heap) (hK : va_K D vwCl (tyG ca) s) {Rel : (Nat → Int32) → (Nat → Int64) → (Nat → Nat → Int32) → (Nat → Nat → Int64) → (Nat → Int32) → (Nat → Nat → Int32) → (Nat → Nat → Int64) → Prop} {qc qm : Nat → Nat} {qo : Nat} {I : Nat → Int32} {J : Nat → Int64} {A : Nat → Nat → Int32} {L : Nat → Nat → Int64} {i : Nat → Int32} {a : Nat → Nat → Int32} {l9 : Nat → Nat → Int64} {o : Nat → Int64} {n : Nat} (hn : n + 5 ≤ Ls) {H : Heap} {locs : List Loc} {ls : Array Slot} (hP : va_P D vwCl (wA qc qm qo ca I J A L i a l9 o) H) (hD : va_D (fun q : Nat => s.heap.size ≤ q) (wA qc qm qo ca I J A L i a l9 o)) (hS : va_S (fun q : Nat => s.heap.size ≤ q) s.heap H locs) (hl : lv_has ls 8 [(4, .int (nI n)), (3, .ref qo), (2, .ref (qm 0)), (1, .ref (qc 0)), (0, .ref b)]) (hst : st_held Rel I J A L i a l9 o ) (hnext : ∀ (I : Nat → Int32) (J : Nat → Int64) (A : Nat → Nat → Int32) (L : Nat → Nat → Int64) (i : Nat → Int32) (a : Nat → Nat → Int32) (l9 : Nat → Nat → Int64) (o : Nat → Int64) (H : Heap) (locs : List Loc) (ls : Array Slot), Rel I J A L i a l9 → va_P D vwCl (wA qc qm qo ca I J A L i a l9 o) H → va_D (fun q : Nat => s.heap.size ≤ q) (wA qc qm qo ca I J A L i a l9 o) → va_S (fun q : Nat => s.heap.size ≤ q) s.heap H locs → lv_has ls 8 [(4, .int (nI n)), (3, .ref qo), (2, .ref (qm 0)), (1, .ref (qc 0)), (0, .ref b)] → W p l e room_1 s m #[Value.ref b] below meth c H locs (400 + n + 1) (20000 + 6 * n + 6) (lw_Z below #[Value.ref b] s) (F0 m 1452 ls [])) : W p l e room_1 s m #[Value.ref b] below meth c H locs (400 + n) (20000 + 6 * n) (lw_Z below #[Value.ref b] s) (F0 m 618 ls []) := by
  obtain ⟨hx, hb, hr, hml, hown, hts0, hX, hbl, hlocks, hgv⟩ := C0
  have hts : ∀ w ∈ TT, w.before #[Value.ref b] s = true := fun w h => hts0 w (List.mem_filter.mp h).1
  have hA : ∀ q : Nat, s.heap.size ≤ q → (fun q : Nat => s.heap.size ≤ q) q := fun _ h => h
  have hbA : ¬ (fun q : Nat => s.heap.size ≤ q) b := Nat.not_le.mpr hbl
  have hown : s.vm.findClass nR_Law = some m.cls := hown
  have hev : xt_ev s H := k_evH hev0 hS
  unfold st_held at hst
  obtain ⟨R0, S0, S1, e1, e2, et, hRel⟩ := hst
  refine lv_aload_n hx hb nd_Law_law_618 rfl (lv_at hl 3 rfl) ?_
  refine k_rVI (As := []) (rest := []) (r := R0) hx hb hml hown hts (cn_Room_held l D ca (qc 0) (qc 1) (qc 19) (qc 34) (qc 47) (qc 48) (qc 58) (qc 2) (qc 5) (qc 9) (qc 13) (qc 10) (I 0) (I 4) (J 2) R0 e1) kc_Room_held kv_Room_held tt_266 ⟨by decide, by decide⟩ rfl rfl hP hK [0, 1, 9] rfl 0 rfl rfl rfl rfl hl.1 (Nat.le_of_ble_eq_true rfl) rfl nd_Law_law_619 ⟨by show _ ≤ 601024; omega, by show _ ≤ 7293034; omega⟩ ?_
  refine lv_aload_n hx hb nd_Law_law_622 rfl (lv_at hl 2 rfl) ?_
  refine k_uVI (w2 := wA qc qm qo ca I J A L (va_up i 0 S1) a l9 o) (As := []) (rest := [.int R0]) (r := S0) hx hb hml hown hts (cn_Model_held l D ca (qm 0) (qm 1) (qm 2) (qm 3) (qm 4) (qm 5) (qm 6) (qm 7) (qm 8) (qm 9) (qm 10) (qm 11) (qm 12) (qm 13) (qm 14) (qm 15) (qm 16) (qm 17) (qm 18) (qm 19) (qm 20) (qm 21) (qm 22) (qm 23) (qm 24) (i 0) (i 1) (i 2) (i 3) (i 4) (i 5) (i 6) (i 7) (l9 0) S0 S1 e2 _) kc_Model_held kv_Model_held tt_936 ⟨by decide, by decide⟩ rfl rfl hP hK hD hS hA [63, 64] rfl (by decide +kernel) rfl rfl 0 rfl rfl rfl rfl hl.1 (Nat.le_of_ble_eq_true rfl) rfl nd_Law_law_623 ⟨by show _ ≤ 601024; omega, by show _ ≤ 7293034; omega⟩ (fun H locs hP hD hS => ?_)
  refine lv_icmp_eq (tgt := 1452) hx hb nd_Law_law_626 (by decide) (fun c1 => ?_) (fun c1 => ?_)
  rotate_left
  · exact absurd et c1
  refine W.widen (k := 400 + n + 1) (n := 20000 + 6 * n + 6) (by omega) (by omega) ?_
  exact hnext _ _ _ _ _ _ _ _ _ _ _ hRel hP hD hS (lv_sub hl [0, 1, 2, 3, 4] rfl)
set_option maxHeartbeats 8000000 in
set_option maxRecDepth 100000 in
theorem lc_on {p : Program} {l : Launch} {e : Env} {s : State} {m : MethodId} {below : List Frame} {meth : Method} {c : Code} {D : va_G} {ca : Nat → ClassId} {b Ls : Nat} {xs : Nat → Int32} (C0 : lw_At p s m meth c b Ls xs) (hL : Ls ≤ 2560) (hlt : l.stackTraces = false) (hev0 : xt_ev s s.heap) (hK : va_K D vwCl (tyG ca) s) {Rel : (Nat → Int32) → (Nat → Int64) → (Nat → Nat → Int32) → (Nat → Nat → Int64) → (Nat → Int32) → (Nat → Nat → Int32) → (Nat → Nat → Int64) → Prop} {qc qm : Nat → Nat} {qo : Nat} {I : Nat → Int32} {J : Nat → Int64} {A : Nat → Nat → Int32} {L : Nat → Nat → Int64} {i : Nat → Int32} {a : Nat → Nat → Int32} {l9 : Nat → Nat → Int64} {o : Nat → Int64} {n : Nat} (hn : n + 5 ≤ Ls) {H : Heap} {locs : List Loc} {ls : Array Slot} (hP : va_P D vwCl (wA qc qm qo ca I J A L i a l9 o) H) (hD : va_D (fun q : Nat => s.heap.size ≤ q) (wA qc qm qo ca I J A L i a l9 o)) (hS : va_S (fun q : Nat => s.heap.size ≤ q) s.heap H locs) (hl : lv_has ls 8 [(4, .int (nI n)), (3, .ref qo), (2, .ref (qm 0)), (1, .ref (qc 0)), (0, .ref b)]) (hst : st_on Rel I J A L i a l9 o (xs (n + 1))) (hnext : ∀ (I : Nat → Int32) (J : Nat → Int64) (A : Nat → Nat → Int32) (L : Nat → Nat → Int64) (i : Nat → Int32) (a : Nat → Nat → Int32) (l9 : Nat → Nat → Int64) (o : Nat → Int64) (H : Heap) (locs : List Loc) (ls : Array Slot), Rel I J A L i a l9 → va_P D vwCl (wA qc qm qo ca I J A L i a l9 o) H → va_D (fun q : Nat => s.heap.size ≤ q) (wA qc qm qo ca I J A L i a l9 o) → va_S (fun q : Nat => s.heap.size ≤ q) s.heap H locs → lv_has ls 8 [(4, .int (nI n)), (3, .ref qo), (2, .ref (qm 0)), (1, .ref (qc 0)), (0, .ref b)] → W p l e room_1 s m #[Value.ref b] below meth c H locs (400 + n + 1) (20000 + 6 * n + 6) (lw_Z below #[Value.ref b] s) (F0 m 1452 ls [])) : W p l e room_1 s m #[Value.ref b] below meth c H locs (400 + n) (20000 + 6 * n) (lw_Z below #[Value.ref b] s) (F0 m 631 ls []) := by
  obtain ⟨hx, hb, hr, hml, hown, hts0, hX, hbl, hlocks, hgv⟩ := C0
  have hts : ∀ w ∈ TT, w.before #[Value.ref b] s = true := fun w h => hts0 w (List.mem_filter.mp h).1
  have hA : ∀ q : Nat, s.heap.size ≤ q → (fun q : Nat => s.heap.size ≤ q) q := fun _ h => h
  have hbA : ¬ (fun q : Nat => s.heap.size ≤ q) b := Nat.not_le.mpr hbl
  have hown : s.vm.findClass nR_Law = some m.cls := hown
  have hev : xt_ev s H := k_evH hev0 hS
  unfold st_on at hst
  rcases hst with ⟨R1, S0, S1, e1, e2, et, ea, hRel⟩ | ⟨S0, S1, e1, e2, et, hRel⟩
  ·
    refine lv_aload_n hx hb nd_Law_law_631 rfl (lv_at hl 3 rfl) ?_
    refine lv_aload_n hx hb nd_Law_law_632 rfl (lv_at hl 4 rfl) ?_
    refine lv_iload hx hb nd_Law_law_633 (lv_at hl 0 rfl) ?_
    refine lv_iconst (v := 1) hx hb nd_Law_law_635 (by decide) ?_
    refine lv_iadd hx hb nd_Law_law_636 ?_
    refine k_sld (n := n) (j := 1) hx hb hX hbl hbA hS (k_sidx rfl) (by omega) hL nd_Law_law_637 ?_
    refine lv_aload_n hx hb nd_Law_law_638 rfl (lv_at hl 1 rfl) ?_
    refine k_uSWI (w2 := wA qc qm qo ca I J A L i a l9 R1) (As := [.ref (qc 0), .int (xs (n + 1)), .ref qo]) (rest := []) (r := 0) hx hb hml hown hts (cn_Law_on l D ca (qc 0) (qc 1) (qc 19) (qc 34) (qc 47) (qc 48) (qc 58) (qc 2) (qc 5) (qc 9) (qc 13) (qc 14) (qc 15) (qc 16) (qc 17) (qc 18) qo (I 0) (A 8) o (xs (n + 1)) (0 : Int32) R1 e1 _) kc_Law_on ks_Law_on tt_547 ⟨by decide, by decide⟩ rfl rfl hP hK hD hS hA [0, 1, 13, 18, 88] rfl (by decide +kernel) rfl rfl rfl hl.1 (Nat.le_of_ble_eq_true rfl) rfl nd_Law_law_639 ⟨by show _ ≤ 601024; omega, by show _ ≤ 7293034; omega⟩ (fun H locs hP hD hS => ?_)
    refine W.widen (k := 400 + n) (n := 20000 + 6 * n) (by omega) (by omega) ?_
    refine lv_istore (lv' := [(5, .int 0), (4, .int (nI n)), (3, .ref qo), (2, .ref (qm 0)), (1, .ref (qc 0)), (0, .ref b)]) hx hb nd_Law_law_642 hl (by decide) rfl (fun ls hl => ?_)
    refine lv_aload_n hx hb nd_Law_law_644 rfl (lv_at hl 3 rfl) ?_
    refine lv_aload_n hx hb nd_Law_law_645 rfl (lv_at hl 5 rfl) ?_
    refine lv_iload hx hb nd_Law_law_646 (lv_at hl 1 rfl) ?_
    refine lv_iconst (v := 1) hx hb nd_Law_law_648 (by decide) ?_
    refine lv_iadd hx hb nd_Law_law_649 ?_
    refine k_sld (n := n) (j := 1) hx hb hX hbl hbA hS (k_sidx rfl) (by omega) hL nd_Law_law_650 ?_
    refine k_uVI (w2 := wA qc qm qo ca I J A L (va_up i 0 S1) a l9 R1) (As := [.int (xs (n + 1))]) (rest := []) (r := S0) hx hb hml hown hts (cn_Model_on l D ca (qm 0) (qm 1) (qm 2) (qm 3) (qm 4) (qm 5) (qm 6) (qm 7) (qm 8) (qm 9) (qm 10) (qm 11) (qm 12) (qm 13) (qm 14) (qm 15) (qm 16) (qm 17) (qm 18) (qm 19) (qm 20) (qm 21) (qm 22) (qm 23) (qm 24) (i 0) (i 1) (i 2) (i 3) (i 4) (i 5) (i 6) (i 7) (l9 0) (xs (n + 1)) S0 S1 e2 _) kc_Model_on kv_Model_on tt_940 ⟨by decide, by decide⟩ rfl rfl hP hK hD hS hA [63, 64] rfl (by decide +kernel) rfl rfl 0 rfl rfl rfl rfl hl.1 (Nat.le_of_ble_eq_true rfl) rfl nd_Law_law_651 ⟨by show _ ≤ 601024; omega, by show _ ≤ 7293034; omega⟩ (fun H locs hP hD hS => ?_)
    refine lv_istore (lv' := [(6, .int S0), (5, .int 0), (4, .int (nI n)), (3, .ref qo), (2, .ref (qm 0)), (1, .ref (qc 0)), (0, .ref b)]) hx hb nd_Law_law_654 hl (by decide) rfl (fun ls hl => ?_)
    refine lv_aload_n hx hb nd_Law_law_656 rfl (lv_at hl 4 rfl) ?_
    refine k_rVI (As := []) (rest := []) (r := S1) hx hb hml hown hts (cn_Model_thrown l D ca (qm 0) (qm 1) (qm 2) (qm 3) (qm 4) (qm 5) (qm 6) (qm 7) (qm 8) (qm 9) (qm 10) (qm 11) (qm 12) (qm 13) (qm 14) (qm 15) (qm 16) (qm 17) (qm 18) (qm 19) (qm 20) (qm 21) (qm 22) (qm 23) (qm 24) ((va_up i 0 S1) 0) ((va_up i 0 S1) 1) ((va_up i 0 S1) 2) ((va_up i 0 S1) 3) ((va_up i 0 S1) 4) ((va_up i 0 S1) 5) ((va_up i 0 S1) 6) ((va_up i 0 S1) 7) S1 rfl) kc_Model_thrown kv_Model_thrown tt_820 ⟨by decide, by decide⟩ rfl rfl hP hK [63] rfl 0 rfl rfl rfl rfl hl.1 (Nat.le_of_ble_eq_true rfl) rfl nd_Law_law_657 ⟨by show _ ≤ 601024; omega, by show _ ≤ 7293034; omega⟩ ?_
    refine lv_iload hx hb nd_Law_law_660 (lv_at hl 1 rfl) ?_
    refine lv_icmp_eq (tgt := 667) hx hb nd_Law_law_662 (by decide) (fun c1 => ?_) (fun c1 => ?_)
    rotate_left
    · exact absurd et c1
    refine lv_iload hx hb nd_Law_law_667 (lv_at hl 1 rfl) ?_
    refine lv_if_ne (tgt := 691) hx hb nd_Law_law_669 (by decide) (fun c2 => ?_) (fun c2 => ?_)
    · exact absurd rfl c2
    refine lv_aload_n hx hb nd_Law_law_672 rfl (lv_at hl 3 rfl) ?_
    refine lv_iconst (v := 0) hx hb nd_Law_law_673 (by decide) ?_
    refine va_lald hx hb hK hP 88 1 rfl rfl (by unfold vp_in; decide) nd_Law_law_674 ?_
    refine lv_iload hx hb nd_Law_law_675 (lv_at hl 0 rfl) ?_
    refine lv_if_eq (tgt := 684) hx hb nd_Law_law_677 (by decide) (fun c3 => ?_) (fun c3 => ?_)
    ·
      refine lv_lconst (v := 0) hx hb nd_Law_law_684 (by decide) ?_
      refine W.lcmp hx hb nd_Law_law_685 ?_
      refine lv_if_eq (tgt := 691) hx hb nd_Law_law_686 (by decide) (fun c4 => ?_) (fun c4 => ?_)
      rotate_left
      · exact absurd (ea.1 c3) c4
      refine lv_goto (tgt := 1452) hx hb nd_Law_law_691 (by decide) ?_
      refine W.widen (k := 400 + n + 1) (n := 20000 + 6 * n + 6) (by omega) (by omega) ?_
      exact hnext _ _ _ _ _ _ _ _ _ _ _ hRel hP hD hS (lv_sub hl [2, 3, 4, 5, 6] rfl)
    ·
      refine lv_lconst (v := 1) hx hb nd_Law_law_680 (by decide) ?_
      refine lv_goto (tgt := 685) hx hb nd_Law_law_681 (by decide) ?_
      refine W.lcmp hx hb nd_Law_law_685 ?_
      refine lv_if_eq (tgt := 691) hx hb nd_Law_law_686 (by decide) (fun c5 => ?_) (fun c5 => ?_)
      rotate_left
      · exact absurd (ea.2 c3) c5
      refine lv_goto (tgt := 1452) hx hb nd_Law_law_691 (by decide) ?_
      refine W.widen (k := 400 + n + 1) (n := 20000 + 6 * n + 6) (by omega) (by omega) ?_
      exact hnext _ _ _ _ _ _ _ _ _ _ _ hRel hP hD hS (lv_sub hl [2, 3, 4, 5, 6] rfl)
  ·
    refine lv_aload_n hx hb nd_Law_law_631 rfl (lv_at hl 3 rfl) ?_
    refine lv_aload_n hx hb nd_Law_law_632 rfl (lv_at hl 4 rfl) ?_
    refine lv_iload hx hb nd_Law_law_633 (lv_at hl 0 rfl) ?_
    refine lv_iconst (v := 1) hx hb nd_Law_law_635 (by decide) ?_
    refine lv_iadd hx hb nd_Law_law_636 ?_
    refine k_sld (n := n) (j := 1) hx hb hX hbl hbA hS (k_sidx rfl) (by omega) hL nd_Law_law_637 ?_
    refine lv_aload_n hx hb nd_Law_law_638 rfl (lv_at hl 1 rfl) ?_
    refine k_uSWX (w2 := wA qc qm qo ca I J A L i a l9 o) (As := [.ref (qc 0), .int (xs (n + 1)), .ref qo]) (rest := []) (r := 1) hx hb hml hown hts (hx_Law_on_1 l hlt D ca (qc 0) (qc 1) (qc 19) (qc 34) (qc 47) (qc 48) (qc 58) (qc 2) (qc 5) (qc 9) (qc 13) (qc 14) (qc 15) (qc 16) (qc 17) (qc 18) qo (I 0) (A 8) o (xs (n + 1)) e1 _) kc_Law_on ks_Law_on tt_547 ⟨by decide, by decide⟩ rfl rfl hP hK hD hS hA hev [0, 1, 13, 18, 88] rfl (by decide +kernel) rfl rfl rfl hl.1 (Nat.le_of_ble_eq_true rfl) rfl nd_Law_law_639 ⟨by show _ ≤ 601024; omega, by show _ ≤ 7293034; omega⟩ (fun H locs hP hD hS => ?_)
    refine W.widen (k := 400 + n + 1) (n := 20000 + 6 * n + 6) (by omega) (by omega) ?_
    refine lv_istore (lv' := [(5, .int 1), (4, .int (nI n)), (3, .ref qo), (2, .ref (qm 0)), (1, .ref (qc 0)), (0, .ref b)]) hx hb nd_Law_law_642 hl (by decide) rfl (fun ls hl => ?_)
    refine lv_aload_n hx hb nd_Law_law_644 rfl (lv_at hl 3 rfl) ?_
    refine lv_aload_n hx hb nd_Law_law_645 rfl (lv_at hl 5 rfl) ?_
    refine lv_iload hx hb nd_Law_law_646 (lv_at hl 1 rfl) ?_
    refine lv_iconst (v := 1) hx hb nd_Law_law_648 (by decide) ?_
    refine lv_iadd hx hb nd_Law_law_649 ?_
    refine k_sld (n := n) (j := 1) hx hb hX hbl hbA hS (k_sidx rfl) (by omega) hL nd_Law_law_650 ?_
    refine k_uVI (w2 := wA qc qm qo ca I J A L (va_up i 0 S1) a l9 o) (As := [.int (xs (n + 1))]) (rest := []) (r := S0) hx hb hml hown hts (cn_Model_on l D ca (qm 0) (qm 1) (qm 2) (qm 3) (qm 4) (qm 5) (qm 6) (qm 7) (qm 8) (qm 9) (qm 10) (qm 11) (qm 12) (qm 13) (qm 14) (qm 15) (qm 16) (qm 17) (qm 18) (qm 19) (qm 20) (qm 21) (qm 22) (qm 23) (qm 24) (i 0) (i 1) (i 2) (i 3) (i 4) (i 5) (i 6) (i 7) (l9 0) (xs (n + 1)) S0 S1 e2 _) kc_Model_on kv_Model_on tt_940 ⟨by decide, by decide⟩ rfl rfl hP hK hD hS hA [63, 64] rfl (by decide +kernel) rfl rfl 0 rfl rfl rfl rfl hl.1 (Nat.le_of_ble_eq_true rfl) rfl nd_Law_law_651 ⟨by show _ ≤ 601024; omega, by show _ ≤ 7293034; omega⟩ (fun H locs hP hD hS => ?_)
    refine lv_istore (lv' := [(6, .int S0), (5, .int 1), (4, .int (nI n)), (3, .ref qo), (2, .ref (qm 0)), (1, .ref (qc 0)), (0, .ref b)]) hx hb nd_Law_law_654 hl (by decide) rfl (fun ls hl => ?_)
    refine lv_aload_n hx hb nd_Law_law_656 rfl (lv_at hl 4 rfl) ?_
    refine k_rVI (As := []) (rest := []) (r := S1) hx hb hml hown hts (cn_Model_thrown l D ca (qm 0) (qm 1) (qm 2) (qm 3) (qm 4) (qm 5) (qm 6) (qm 7) (qm 8) (qm 9) (qm 10) (qm 11) (qm 12) (qm 13) (qm 14) (qm 15) (qm 16) (qm 17) (qm 18) (qm 19) (qm 20) (qm 21) (qm 22) (qm 23) (qm 24) ((va_up i 0 S1) 0) ((va_up i 0 S1) 1) ((va_up i 0 S1) 2) ((va_up i 0 S1) 3) ((va_up i 0 S1) 4) ((va_up i 0 S1) 5) ((va_up i 0 S1) 6) ((va_up i 0 S1) 7) S1 rfl) kc_Model_thrown kv_Model_thrown tt_820 ⟨by decide, by decide⟩ rfl rfl hP hK [63] rfl 0 rfl rfl rfl rfl hl.1 (Nat.le_of_ble_eq_true rfl) rfl nd_Law_law_657 ⟨by show _ ≤ 601024; omega, by show _ ≤ 7293034; omega⟩ ?_
    refine lv_iload hx hb nd_Law_law_660 (lv_at hl 1 rfl) ?_
    refine lv_icmp_eq (tgt := 667) hx hb nd_Law_law_662 (by decide) (fun c6 => ?_) (fun c6 => ?_)
    rotate_left
    · exact absurd et c6
    refine lv_iload hx hb nd_Law_law_667 (lv_at hl 1 rfl) ?_
    refine lv_if_ne (tgt := 691) hx hb nd_Law_law_669 (by decide) (fun c7 => ?_) (fun c7 => ?_)
    rotate_left
    · exact absurd c7 (by decide)
    refine lv_goto (tgt := 1452) hx hb nd_Law_law_691 (by decide) ?_
    refine W.widen (k := 400 + n + 1) (n := 20000 + 6 * n + 6) (by omega) (by omega) ?_
    exact hnext _ _ _ _ _ _ _ _ _ _ _ hRel hP hD hS (lv_sub hl [2, 3, 4, 5, 6] rfl)
set_option maxHeartbeats 8000000 in
set_option maxRecDepth 100000 in
theorem lc_book {p : Program} {l : Launch} {e : Env} {s : State} {m : MethodId} {below : List Frame} {meth : Method} {c : Code} {D : va_G} {ca : Nat → ClassId} {b Ls : Nat} {xs : Nat → Int32} (C0 : lw_At p s m meth c b Ls xs) (hL : Ls ≤ 2560) (hlt : l.stackTraces = false) (hev0 : xt_ev s s.heap) (hK : va_K D vwCl (tyG ca) s) {Rel : (Nat → Int32) → (Nat → Int64) → (Nat → Nat → Int32) → (Nat → Nat → Int64) → (Nat → Int32) → (Nat → Nat → Int32) → (Nat → Nat → Int64) → Prop} {qc qm : Nat → Nat} {qo : Nat} {I : Nat → Int32} {J : Nat → Int64} {A : Nat → Nat → Int32} {L : Nat → Nat → Int64} {i : Nat → Int32} {a : Nat → Nat → Int32} {l9 : Nat → Nat → Int64} {o : Nat → Int64} {n : Nat} (hn : n + 5 ≤ Ls) {H : Heap} {locs : List Loc} {ls : Array Slot} (hP : va_P D vwCl (wA qc qm qo ca I J A L i a l9 o) H) (hD : va_D (fun q : Nat => s.heap.size ≤ q) (wA qc qm qo ca I J A L i a l9 o)) (hS : va_S (fun q : Nat => s.heap.size ≤ q) s.heap H locs) (hl : lv_has ls 8 [(4, .int (nI n)), (3, .ref qo), (2, .ref (qm 0)), (1, .ref (qc 0)), (0, .ref b)]) (hst : st_book Rel I J A L i a l9 o (xs (n + 1)) (xs (n + 2))) (hnext : ∀ (I : Nat → Int32) (J : Nat → Int64) (A : Nat → Nat → Int32) (L : Nat → Nat → Int64) (i : Nat → Int32) (a : Nat → Nat → Int32) (l9 : Nat → Nat → Int64) (o : Nat → Int64) (H : Heap) (locs : List Loc) (ls : Array Slot), Rel I J A L i a l9 → va_P D vwCl (wA qc qm qo ca I J A L i a l9 o) H → va_D (fun q : Nat => s.heap.size ≤ q) (wA qc qm qo ca I J A L i a l9 o) → va_S (fun q : Nat => s.heap.size ≤ q) s.heap H locs → lv_has ls 8 [(4, .int (nI n)), (3, .ref qo), (2, .ref (qm 0)), (1, .ref (qc 0)), (0, .ref b)] → W p l e room_1 s m #[Value.ref b] below meth c H locs (400 + n + 1) (20000 + 6 * n + 6) (lw_Z below #[Value.ref b] s) (F0 m 1452 ls [])) : W p l e room_1 s m #[Value.ref b] below meth c H locs (400 + n) (20000 + 6 * n) (lw_Z below #[Value.ref b] s) (F0 m 694 ls []) := by
  obtain ⟨hx, hb, hr, hml, hown, hts0, hX, hbl, hlocks, hgv⟩ := C0
  have hts : ∀ w ∈ TT, w.before #[Value.ref b] s = true := fun w h => hts0 w (List.mem_filter.mp h).1
  have hA : ∀ q : Nat, s.heap.size ≤ q → (fun q : Nat => s.heap.size ≤ q) q := fun _ h => h
  have hbA : ¬ (fun q : Nat => s.heap.size ≤ q) b := Nat.not_le.mpr hbl
  have hown : s.vm.findClass nR_Law = some m.cls := hown
  have hev : xt_ev s H := k_evH hev0 hS
  unfold st_book at hst
  rcases hst with ⟨R1, S0, S1, e1, e2, et, ea, hRel⟩ | ⟨S0, S1, e1, e2, et, hRel⟩
  ·
    refine lv_aload_n hx hb nd_Law_law_694 rfl (lv_at hl 3 rfl) ?_
    refine lv_aload_n hx hb nd_Law_law_695 rfl (lv_at hl 4 rfl) ?_
    refine lv_iload hx hb nd_Law_law_696 (lv_at hl 0 rfl) ?_
    refine lv_iconst (v := 1) hx hb nd_Law_law_698 (by decide) ?_
    refine lv_iadd hx hb nd_Law_law_699 ?_
    refine k_sld (n := n) (j := 1) hx hb hX hbl hbA hS (k_sidx rfl) (by omega) hL nd_Law_law_700 ?_
    refine lv_aload_n hx hb nd_Law_law_701 rfl (lv_at hl 4 rfl) ?_
    refine lv_iload hx hb nd_Law_law_702 (lv_at hl 0 rfl) ?_
    refine lv_iconst (v := 2) hx hb nd_Law_law_704 (by decide) ?_
    refine lv_iadd hx hb nd_Law_law_705 ?_
    refine k_sld (n := n) (j := 2) hx hb hX hbl hbA hS (k_sidx rfl) (by omega) hL nd_Law_law_706 ?_
    refine lv_aload_n hx hb nd_Law_law_707 rfl (lv_at hl 1 rfl) ?_
    refine k_uSWI (w2 := wA qc qm qo ca I J A L i a l9 R1) (As := [.ref (qc 0), .int (xs (n + 1)), .int (xs (n + 2)), .ref qo]) (rest := []) (r := 0) hx hb hml hown hts (cn_Law_book l D ca (qc 0) (qc 1) (qc 19) (qc 34) (qc 47) (qc 48) (qc 58) (qc 2) (qc 5) (qc 9) (qc 13) (qc 3) (qc 4) qo (I 0) (I 1) (I 2) (J 0) (J 1) (L 1) (L 0) o (xs (n + 1)) (xs (n + 2)) (0 : Int32) R1 e1 _) kc_Law_book ks_Law_book tt_554 ⟨by decide, by decide⟩ rfl rfl hP hK hD hS hA [0, 1, 2, 4, 3, 88] rfl (by decide +kernel) rfl rfl rfl hl.1 (Nat.le_of_ble_eq_true rfl) rfl nd_Law_law_708 ⟨by show _ ≤ 601024; omega, by show _ ≤ 7293034; omega⟩ (fun H locs hP hD hS => ?_)
    refine W.widen (k := 400 + n) (n := 20000 + 6 * n) (by omega) (by omega) ?_
    refine lv_istore (lv' := [(5, .int 0), (4, .int (nI n)), (3, .ref qo), (2, .ref (qm 0)), (1, .ref (qc 0)), (0, .ref b)]) hx hb nd_Law_law_711 hl (by decide) rfl (fun ls hl => ?_)
    refine lv_aload_n hx hb nd_Law_law_713 rfl (lv_at hl 3 rfl) ?_
    refine lv_aload_n hx hb nd_Law_law_714 rfl (lv_at hl 5 rfl) ?_
    refine lv_iload hx hb nd_Law_law_715 (lv_at hl 1 rfl) ?_
    refine lv_iconst (v := 1) hx hb nd_Law_law_717 (by decide) ?_
    refine lv_iadd hx hb nd_Law_law_718 ?_
    refine k_sld (n := n) (j := 1) hx hb hX hbl hbA hS (k_sidx rfl) (by omega) hL nd_Law_law_719 ?_
    refine lv_aload_n hx hb nd_Law_law_720 rfl (lv_at hl 5 rfl) ?_
    refine lv_iload hx hb nd_Law_law_721 (lv_at hl 1 rfl) ?_
    refine lv_iconst (v := 2) hx hb nd_Law_law_723 (by decide) ?_
    refine lv_iadd hx hb nd_Law_law_724 ?_
    refine k_sld (n := n) (j := 2) hx hb hX hbl hbA hS (k_sidx rfl) (by omega) hL nd_Law_law_725 ?_
    refine k_uVJ (w2 := wA qc qm qo ca I J A L (va_up i 0 S1) a l9 R1) (As := [.int (xs (n + 1)), .int (xs (n + 2))]) (rest := []) (r := S0) hx hb hml hown hts (cn_Model_book l D ca (qm 0) (qm 1) (qm 2) (qm 3) (qm 4) (qm 5) (qm 6) (qm 7) (qm 8) (qm 9) (qm 10) (qm 11) (qm 12) (qm 13) (qm 14) (qm 15) (qm 16) (qm 17) (qm 18) (qm 19) (qm 20) (qm 21) (qm 22) (qm 23) (qm 24) (i 0) (i 1) (i 2) (i 3) (i 4) (i 5) (i 6) (i 7) (l9 2) (l9 0) (xs (n + 1)) (xs (n + 2)) S0 S1 e2 _) kc_Model_book kv_Model_book tt_944 ⟨by decide, by decide⟩ rfl rfl hP hK hD hS hA [63, 66, 64] rfl (by decide +kernel) rfl rfl 0 rfl rfl rfl rfl hl.1 (Nat.le_of_ble_eq_true rfl) rfl nd_Law_law_726 ⟨by show _ ≤ 601024; omega, by show _ ≤ 7293034; omega⟩ (fun H locs hP hD hS => ?_)
    refine lv_lstore (lv' := [(6, .long S0), (5, .int 0), (4, .int (nI n)), (3, .ref qo), (2, .ref (qm 0)), (1, .ref (qc 0)), (0, .ref b)]) hx hb nd_Law_law_729 hl (by decide) rfl (fun ls hl => ?_)
    refine lv_aload_n hx hb nd_Law_law_731 rfl (lv_at hl 4 rfl) ?_
    refine k_rVI (As := []) (rest := []) (r := S1) hx hb hml hown hts (cn_Model_thrown l D ca (qm 0) (qm 1) (qm 2) (qm 3) (qm 4) (qm 5) (qm 6) (qm 7) (qm 8) (qm 9) (qm 10) (qm 11) (qm 12) (qm 13) (qm 14) (qm 15) (qm 16) (qm 17) (qm 18) (qm 19) (qm 20) (qm 21) (qm 22) (qm 23) (qm 24) ((va_up i 0 S1) 0) ((va_up i 0 S1) 1) ((va_up i 0 S1) 2) ((va_up i 0 S1) 3) ((va_up i 0 S1) 4) ((va_up i 0 S1) 5) ((va_up i 0 S1) 6) ((va_up i 0 S1) 7) S1 rfl) kc_Model_thrown kv_Model_thrown tt_820 ⟨by decide, by decide⟩ rfl rfl hP hK [63] rfl 0 rfl rfl rfl rfl hl.1 (Nat.le_of_ble_eq_true rfl) rfl nd_Law_law_732 ⟨by show _ ≤ 601024; omega, by show _ ≤ 7293034; omega⟩ ?_
    refine lv_iload hx hb nd_Law_law_735 (lv_at hl 1 rfl) ?_
    refine lv_icmp_eq (tgt := 742) hx hb nd_Law_law_737 (by decide) (fun c1 => ?_) (fun c1 => ?_)
    rotate_left
    · exact absurd et c1
    refine lv_iload hx hb nd_Law_law_742 (lv_at hl 1 rfl) ?_
    refine lv_if_ne (tgt := 758) hx hb nd_Law_law_744 (by decide) (fun c2 => ?_) (fun c2 => ?_)
    · exact absurd rfl c2
    refine lv_aload_n hx hb nd_Law_law_747 rfl (lv_at hl 3 rfl) ?_
    refine lv_iconst (v := 0) hx hb nd_Law_law_748 (by decide) ?_
    refine va_lald hx hb hK hP 88 1 rfl rfl (by unfold vp_in; decide) nd_Law_law_749 ?_
    refine lv_lload hx hb nd_Law_law_750 (lv_at hl 0 rfl) ?_
    refine W.lcmp hx hb nd_Law_law_752 ?_
    refine lv_if_eq (tgt := 758) hx hb nd_Law_law_753 (by decide) (fun c3 => ?_) (fun c3 => ?_)
    rotate_left
    · exact absurd ea c3
    refine lv_goto (tgt := 1452) hx hb nd_Law_law_758 (by decide) ?_
    refine W.widen (k := 400 + n + 1) (n := 20000 + 6 * n + 6) (by omega) (by omega) ?_
    exact hnext _ _ _ _ _ _ _ _ _ _ _ hRel hP hD hS (lv_sub hl [2, 3, 4, 5, 6] rfl)
  ·
    refine lv_aload_n hx hb nd_Law_law_694 rfl (lv_at hl 3 rfl) ?_
    refine lv_aload_n hx hb nd_Law_law_695 rfl (lv_at hl 4 rfl) ?_
    refine lv_iload hx hb nd_Law_law_696 (lv_at hl 0 rfl) ?_
    refine lv_iconst (v := 1) hx hb nd_Law_law_698 (by decide) ?_
    refine lv_iadd hx hb nd_Law_law_699 ?_
    refine k_sld (n := n) (j := 1) hx hb hX hbl hbA hS (k_sidx rfl) (by omega) hL nd_Law_law_700 ?_
    refine lv_aload_n hx hb nd_Law_law_701 rfl (lv_at hl 4 rfl) ?_
    refine lv_iload hx hb nd_Law_law_702 (lv_at hl 0 rfl) ?_
    refine lv_iconst (v := 2) hx hb nd_Law_law_704 (by decide) ?_
    refine lv_iadd hx hb nd_Law_law_705 ?_
    refine k_sld (n := n) (j := 2) hx hb hX hbl hbA hS (k_sidx rfl) (by omega) hL nd_Law_law_706 ?_
    refine lv_aload_n hx hb nd_Law_law_707 rfl (lv_at hl 1 rfl) ?_
    refine k_uSWX (w2 := wA qc qm qo ca I J A L i a l9 o) (As := [.ref (qc 0), .int (xs (n + 1)), .int (xs (n + 2)), .ref qo]) (rest := []) (r := 1) hx hb hml hown hts (hx_Law_book_1 l hlt D ca (qc 0) (qc 1) (qc 19) (qc 34) (qc 47) (qc 48) (qc 58) (qc 2) (qc 5) (qc 9) (qc 13) (qc 3) (qc 4) qo (I 0) (I 1) (I 2) (J 0) (J 1) (L 1) (L 0) o (xs (n + 1)) (xs (n + 2)) e1 _) kc_Law_book ks_Law_book tt_554 ⟨by decide, by decide⟩ rfl rfl hP hK hD hS hA hev [0, 1, 2, 4, 3, 88] rfl (by decide +kernel) rfl rfl rfl hl.1 (Nat.le_of_ble_eq_true rfl) rfl nd_Law_law_708 ⟨by show _ ≤ 601024; omega, by show _ ≤ 7293034; omega⟩ (fun H locs hP hD hS => ?_)
    refine W.widen (k := 400 + n + 1) (n := 20000 + 6 * n + 6) (by omega) (by omega) ?_
    refine lv_istore (lv' := [(5, .int 1), (4, .int (nI n)), (3, .ref qo), (2, .ref (qm 0)), (1, .ref (qc 0)), (0, .ref b)]) hx hb nd_Law_law_711 hl (by decide) rfl (fun ls hl => ?_)
    refine lv_aload_n hx hb nd_Law_law_713 rfl (lv_at hl 3 rfl) ?_
    refine lv_aload_n hx hb nd_Law_law_714 rfl (lv_at hl 5 rfl) ?_
    refine lv_iload hx hb nd_Law_law_715 (lv_at hl 1 rfl) ?_
    refine lv_iconst (v := 1) hx hb nd_Law_law_717 (by decide) ?_
    refine lv_iadd hx hb nd_Law_law_718 ?_
    refine k_sld (n := n) (j := 1) hx hb hX hbl hbA hS (k_sidx rfl) (by omega) hL nd_Law_law_719 ?_
    refine lv_aload_n hx hb nd_Law_law_720 rfl (lv_at hl 5 rfl) ?_
    refine lv_iload hx hb nd_Law_law_721 (lv_at hl 1 rfl) ?_
    refine lv_iconst (v := 2) hx hb nd_Law_law_723 (by decide) ?_
    refine lv_iadd hx hb nd_Law_law_724 ?_
    refine k_sld (n := n) (j := 2) hx hb hX hbl hbA hS (k_sidx rfl) (by omega) hL nd_Law_law_725 ?_
    refine k_uVJ (w2 := wA qc qm qo ca I J A L (va_up i 0 S1) a l9 o) (As := [.int (xs (n + 1)), .int (xs (n + 2))]) (rest := []) (r := S0) hx hb hml hown hts (cn_Model_book l D ca (qm 0) (qm 1) (qm 2) (qm 3) (qm 4) (qm 5) (qm 6) (qm 7) (qm 8) (qm 9) (qm 10) (qm 11) (qm 12) (qm 13) (qm 14) (qm 15) (qm 16) (qm 17) (qm 18) (qm 19) (qm 20) (qm 21) (qm 22) (qm 23) (qm 24) (i 0) (i 1) (i 2) (i 3) (i 4) (i 5) (i 6) (i 7) (l9 2) (l9 0) (xs (n + 1)) (xs (n + 2)) S0 S1 e2 _) kc_Model_book kv_Model_book tt_944 ⟨by decide, by decide⟩ rfl rfl hP hK hD hS hA [63, 66, 64] rfl (by decide +kernel) rfl rfl 0 rfl rfl rfl rfl hl.1 (Nat.le_of_ble_eq_true rfl) rfl nd_Law_law_726 ⟨by show _ ≤ 601024; omega, by show _ ≤ 7293034; omega⟩ (fun H locs hP hD hS => ?_)
    refine lv_lstore (lv' := [(6, .long S0), (5, .int 1), (4, .int (nI n)), (3, .ref qo), (2, .ref (qm 0)), (1, .ref (qc 0)), (0, .ref b)]) hx hb nd_Law_law_729 hl (by decide) rfl (fun ls hl => ?_)
    refine lv_aload_n hx hb nd_Law_law_731 rfl (lv_at hl 4 rfl) ?_
    refine k_rVI (As := []) (rest := []) (r := S1) hx hb hml hown hts (cn_Model_thrown l D ca (qm 0) (qm 1) (qm 2) (qm 3) (qm 4) (qm 5) (qm 6) (qm 7) (qm 8) (qm 9) (qm 10) (qm 11) (qm 12) (qm 13) (qm 14) (qm 15) (qm 16) (qm 17) (qm 18) (qm 19) (qm 20) (qm 21) (qm 22) (qm 23) (qm 24) ((va_up i 0 S1) 0) ((va_up i 0 S1) 1) ((va_up i 0 S1) 2) ((va_up i 0 S1) 3) ((va_up i 0 S1) 4) ((va_up i 0 S1) 5) ((va_up i 0 S1) 6) ((va_up i 0 S1) 7) S1 rfl) kc_Model_thrown kv_Model_thrown tt_820 ⟨by decide, by decide⟩ rfl rfl hP hK [63] rfl 0 rfl rfl rfl rfl hl.1 (Nat.le_of_ble_eq_true rfl) rfl nd_Law_law_732 ⟨by show _ ≤ 601024; omega, by show _ ≤ 7293034; omega⟩ ?_
    refine lv_iload hx hb nd_Law_law_735 (lv_at hl 1 rfl) ?_
    refine lv_icmp_eq (tgt := 742) hx hb nd_Law_law_737 (by decide) (fun c4 => ?_) (fun c4 => ?_)
    rotate_left
    · exact absurd et c4
    refine lv_iload hx hb nd_Law_law_742 (lv_at hl 1 rfl) ?_
    refine lv_if_ne (tgt := 758) hx hb nd_Law_law_744 (by decide) (fun c5 => ?_) (fun c5 => ?_)
    rotate_left
    · exact absurd c5 (by decide)
    refine lv_goto (tgt := 1452) hx hb nd_Law_law_758 (by decide) ?_
    refine W.widen (k := 400 + n + 1) (n := 20000 + 6 * n + 6) (by omega) (by omega) ?_
    exact hnext _ _ _ _ _ _ _ _ _ _ _ hRel hP hD hS (lv_sub hl [2, 3, 4, 5, 6] rfl)
set_option maxHeartbeats 8000000 in
set_option maxRecDepth 100000 in
theorem lc_dew {p : Program} {l : Launch} {e : Env} {s : State} {m : MethodId} {below : List Frame} {meth : Method} {c : Code} {D : va_G} {ca : Nat → ClassId} {b Ls : Nat} {xs : Nat → Int32} (C0 : lw_At p s m meth c b Ls xs) (hL : Ls ≤ 2560) (hlt : l.stackTraces = false) (hev0 : xt_ev s s.heap) (hK : va_K D vwCl (tyG ca) s) {Rel : (Nat → Int32) → (Nat → Int64) → (Nat → Nat → Int32) → (Nat → Nat → Int64) → (Nat → Int32) → (Nat → Nat → Int32) → (Nat → Nat → Int64) → Prop} {qc qm : Nat → Nat} {qo : Nat} {I : Nat → Int32} {J : Nat → Int64} {A : Nat → Nat → Int32} {L : Nat → Nat → Int64} {i : Nat → Int32} {a : Nat → Nat → Int32} {l9 : Nat → Nat → Int64} {o : Nat → Int64} {n : Nat} (hn : n + 5 ≤ Ls) {H : Heap} {locs : List Loc} {ls : Array Slot} (hP : va_P D vwCl (wA qc qm qo ca I J A L i a l9 o) H) (hD : va_D (fun q : Nat => s.heap.size ≤ q) (wA qc qm qo ca I J A L i a l9 o)) (hS : va_S (fun q : Nat => s.heap.size ≤ q) s.heap H locs) (hl : lv_has ls 8 [(4, .int (nI n)), (3, .ref qo), (2, .ref (qm 0)), (1, .ref (qc 0)), (0, .ref b)]) (hst : st_dew Rel I J A L i a l9 o (xs (n + 1))) (hnext : ∀ (I : Nat → Int32) (J : Nat → Int64) (A : Nat → Nat → Int32) (L : Nat → Nat → Int64) (i : Nat → Int32) (a : Nat → Nat → Int32) (l9 : Nat → Nat → Int64) (o : Nat → Int64) (H : Heap) (locs : List Loc) (ls : Array Slot), Rel I J A L i a l9 → va_P D vwCl (wA qc qm qo ca I J A L i a l9 o) H → va_D (fun q : Nat => s.heap.size ≤ q) (wA qc qm qo ca I J A L i a l9 o) → va_S (fun q : Nat => s.heap.size ≤ q) s.heap H locs → lv_has ls 8 [(4, .int (nI n)), (3, .ref qo), (2, .ref (qm 0)), (1, .ref (qc 0)), (0, .ref b)] → W p l e room_1 s m #[Value.ref b] below meth c H locs (400 + n + 1) (20000 + 6 * n + 6) (lw_Z below #[Value.ref b] s) (F0 m 1452 ls [])) : W p l e room_1 s m #[Value.ref b] below meth c H locs (400 + n) (20000 + 6 * n) (lw_Z below #[Value.ref b] s) (F0 m 761 ls []) := by
  obtain ⟨hx, hb, hr, hml, hown, hts0, hX, hbl, hlocks, hgv⟩ := C0
  have hts : ∀ w ∈ TT, w.before #[Value.ref b] s = true := fun w h => hts0 w (List.mem_filter.mp h).1
  have hA : ∀ q : Nat, s.heap.size ≤ q → (fun q : Nat => s.heap.size ≤ q) q := fun _ h => h
  have hbA : ¬ (fun q : Nat => s.heap.size ≤ q) b := Nat.not_le.mpr hbl
  have hown : s.vm.findClass nR_Law = some m.cls := hown
  have hev : xt_ev s H := k_evH hev0 hS
  unfold st_dew at hst
  rcases hst with ⟨R1, S0, S1, e1, e2, et, ea, hRel⟩ | ⟨S0, S1, e1, e2, et, hRel⟩
  ·
    refine lv_aload_n hx hb nd_Law_law_761 rfl (lv_at hl 3 rfl) ?_
    refine lv_aload_n hx hb nd_Law_law_762 rfl (lv_at hl 4 rfl) ?_
    refine lv_iload hx hb nd_Law_law_763 (lv_at hl 0 rfl) ?_
    refine lv_iconst (v := 1) hx hb nd_Law_law_765 (by decide) ?_
    refine lv_iadd hx hb nd_Law_law_766 ?_
    refine k_sld (n := n) (j := 1) hx hb hX hbl hbA hS (k_sidx rfl) (by omega) hL nd_Law_law_767 ?_
    refine lv_aload_n hx hb nd_Law_law_768 rfl (lv_at hl 1 rfl) ?_
    refine k_uSWI (w2 := wA qc qm qo ca I J A L i a l9 R1) (As := [.ref (qc 0), .int (xs (n + 1)), .ref qo]) (rest := []) (r := 0) hx hb hml hown hts (cn_Law_dew l D ca (qc 0) (qc 1) (qc 19) (qc 34) (qc 47) (qc 48) (qc 58) (qc 2) (qc 5) (qc 9) (qc 13) (qc 6) (qc 7) (qc 8) (qc 3) (qc 4) qo (I 0) (I 3) (I 1) (I 2) (J 0) (J 1) (L 2) (A 1) o (xs (n + 1)) (0 : Int32) R1 e1 _) kc_Law_dew ks_Law_dew tt_561 ⟨by decide, by decide⟩ rfl rfl hP hK hD hS hA [0, 1, 5, 2, 8, 7, 88] rfl (by decide +kernel) rfl rfl rfl hl.1 (Nat.le_of_ble_eq_true rfl) rfl nd_Law_law_769 ⟨by show _ ≤ 601024; omega, by show _ ≤ 7293034; omega⟩ (fun H locs hP hD hS => ?_)
    refine W.widen (k := 400 + n) (n := 20000 + 6 * n) (by omega) (by omega) ?_
    refine lv_istore (lv' := [(5, .int 0), (4, .int (nI n)), (3, .ref qo), (2, .ref (qm 0)), (1, .ref (qc 0)), (0, .ref b)]) hx hb nd_Law_law_772 hl (by decide) rfl (fun ls hl => ?_)
    refine lv_aload_n hx hb nd_Law_law_774 rfl (lv_at hl 3 rfl) ?_
    refine lv_aload_n hx hb nd_Law_law_775 rfl (lv_at hl 5 rfl) ?_
    refine lv_iload hx hb nd_Law_law_776 (lv_at hl 1 rfl) ?_
    refine lv_iconst (v := 1) hx hb nd_Law_law_778 (by decide) ?_
    refine lv_iadd hx hb nd_Law_law_779 ?_
    refine k_sld (n := n) (j := 1) hx hb hX hbl hbA hS (k_sidx rfl) (by omega) hL nd_Law_law_780 ?_
    refine k_uVI (w2 := wA qc qm qo ca I J A L (va_up i 0 S1) a l9 R1) (As := [.int (xs (n + 1))]) (rest := []) (r := S0) hx hb hml hown hts (cn_Model_dew l D ca (qm 0) (qm 1) (qm 2) (qm 3) (qm 4) (qm 5) (qm 6) (qm 7) (qm 8) (qm 9) (qm 10) (qm 11) (qm 12) (qm 13) (qm 14) (qm 15) (qm 16) (qm 17) (qm 18) (qm 19) (qm 20) (qm 21) (qm 22) (qm 23) (qm 24) (i 0) (i 1) (i 2) (i 3) (i 4) (i 5) (i 6) (i 7) (l9 0) (a 1) (xs (n + 1)) S0 S1 e2 _) kc_Model_dew kv_Model_dew tt_948 ⟨by decide, by decide⟩ rfl rfl hP hK hD hS hA [63, 64, 69] rfl (by decide +kernel) rfl rfl 0 rfl rfl rfl rfl hl.1 (Nat.le_of_ble_eq_true rfl) rfl nd_Law_law_781 ⟨by show _ ≤ 601024; omega, by show _ ≤ 7293034; omega⟩ (fun H locs hP hD hS => ?_)
    refine lv_istore (lv' := [(6, .int S0), (5, .int 0), (4, .int (nI n)), (3, .ref qo), (2, .ref (qm 0)), (1, .ref (qc 0)), (0, .ref b)]) hx hb nd_Law_law_784 hl (by decide) rfl (fun ls hl => ?_)
    refine lv_aload_n hx hb nd_Law_law_786 rfl (lv_at hl 4 rfl) ?_
    refine k_rVI (As := []) (rest := []) (r := S1) hx hb hml hown hts (cn_Model_thrown l D ca (qm 0) (qm 1) (qm 2) (qm 3) (qm 4) (qm 5) (qm 6) (qm 7) (qm 8) (qm 9) (qm 10) (qm 11) (qm 12) (qm 13) (qm 14) (qm 15) (qm 16) (qm 17) (qm 18) (qm 19) (qm 20) (qm 21) (qm 22) (qm 23) (qm 24) ((va_up i 0 S1) 0) ((va_up i 0 S1) 1) ((va_up i 0 S1) 2) ((va_up i 0 S1) 3) ((va_up i 0 S1) 4) ((va_up i 0 S1) 5) ((va_up i 0 S1) 6) ((va_up i 0 S1) 7) S1 rfl) kc_Model_thrown kv_Model_thrown tt_820 ⟨by decide, by decide⟩ rfl rfl hP hK [63] rfl 0 rfl rfl rfl rfl hl.1 (Nat.le_of_ble_eq_true rfl) rfl nd_Law_law_787 ⟨by show _ ≤ 601024; omega, by show _ ≤ 7293034; omega⟩ ?_
    refine lv_iload hx hb nd_Law_law_790 (lv_at hl 1 rfl) ?_
    refine lv_icmp_eq (tgt := 797) hx hb nd_Law_law_792 (by decide) (fun c1 => ?_) (fun c1 => ?_)
    rotate_left
    · exact absurd et c1
    refine lv_iload hx hb nd_Law_law_797 (lv_at hl 1 rfl) ?_
    refine lv_if_ne (tgt := 821) hx hb nd_Law_law_799 (by decide) (fun c2 => ?_) (fun c2 => ?_)
    · exact absurd rfl c2
    refine lv_aload_n hx hb nd_Law_law_802 rfl (lv_at hl 3 rfl) ?_
    refine lv_iconst (v := 0) hx hb nd_Law_law_803 (by decide) ?_
    refine va_lald hx hb hK hP 88 1 rfl rfl (by unfold vp_in; decide) nd_Law_law_804 ?_
    refine lv_iload hx hb nd_Law_law_805 (lv_at hl 0 rfl) ?_
    refine lv_if_eq (tgt := 814) hx hb nd_Law_law_807 (by decide) (fun c3 => ?_) (fun c3 => ?_)
    ·
      refine lv_lconst (v := 0) hx hb nd_Law_law_814 (by decide) ?_
      refine W.lcmp hx hb nd_Law_law_815 ?_
      refine lv_if_eq (tgt := 821) hx hb nd_Law_law_816 (by decide) (fun c4 => ?_) (fun c4 => ?_)
      rotate_left
      · exact absurd (ea.1 c3) c4
      refine lv_goto (tgt := 1452) hx hb nd_Law_law_821 (by decide) ?_
      refine W.widen (k := 400 + n + 1) (n := 20000 + 6 * n + 6) (by omega) (by omega) ?_
      exact hnext _ _ _ _ _ _ _ _ _ _ _ hRel hP hD hS (lv_sub hl [2, 3, 4, 5, 6] rfl)
    ·
      refine lv_lconst (v := 1) hx hb nd_Law_law_810 (by decide) ?_
      refine lv_goto (tgt := 815) hx hb nd_Law_law_811 (by decide) ?_
      refine W.lcmp hx hb nd_Law_law_815 ?_
      refine lv_if_eq (tgt := 821) hx hb nd_Law_law_816 (by decide) (fun c5 => ?_) (fun c5 => ?_)
      rotate_left
      · exact absurd (ea.2 c3) c5
      refine lv_goto (tgt := 1452) hx hb nd_Law_law_821 (by decide) ?_
      refine W.widen (k := 400 + n + 1) (n := 20000 + 6 * n + 6) (by omega) (by omega) ?_
      exact hnext _ _ _ _ _ _ _ _ _ _ _ hRel hP hD hS (lv_sub hl [2, 3, 4, 5, 6] rfl)
  ·
    refine lv_aload_n hx hb nd_Law_law_761 rfl (lv_at hl 3 rfl) ?_
    refine lv_aload_n hx hb nd_Law_law_762 rfl (lv_at hl 4 rfl) ?_
    refine lv_iload hx hb nd_Law_law_763 (lv_at hl 0 rfl) ?_
    refine lv_iconst (v := 1) hx hb nd_Law_law_765 (by decide) ?_
    refine lv_iadd hx hb nd_Law_law_766 ?_
    refine k_sld (n := n) (j := 1) hx hb hX hbl hbA hS (k_sidx rfl) (by omega) hL nd_Law_law_767 ?_
    refine lv_aload_n hx hb nd_Law_law_768 rfl (lv_at hl 1 rfl) ?_
    refine k_uSWX (w2 := wA qc qm qo ca I J A L i a l9 o) (As := [.ref (qc 0), .int (xs (n + 1)), .ref qo]) (rest := []) (r := 1) hx hb hml hown hts (hx_Law_dew_1 l hlt D ca (qc 0) (qc 1) (qc 19) (qc 34) (qc 47) (qc 48) (qc 58) (qc 2) (qc 5) (qc 9) (qc 13) (qc 6) (qc 7) (qc 8) (qc 3) (qc 4) qo (I 0) (I 3) (I 1) (I 2) (J 0) (J 1) (L 2) (A 1) o (xs (n + 1)) e1 _) kc_Law_dew ks_Law_dew tt_561 ⟨by decide, by decide⟩ rfl rfl hP hK hD hS hA hev [0, 1, 5, 2, 8, 7, 88] rfl (by decide +kernel) rfl rfl rfl hl.1 (Nat.le_of_ble_eq_true rfl) rfl nd_Law_law_769 ⟨by show _ ≤ 601024; omega, by show _ ≤ 7293034; omega⟩ (fun H locs hP hD hS => ?_)
    refine W.widen (k := 400 + n + 1) (n := 20000 + 6 * n + 6) (by omega) (by omega) ?_
    refine lv_istore (lv' := [(5, .int 1), (4, .int (nI n)), (3, .ref qo), (2, .ref (qm 0)), (1, .ref (qc 0)), (0, .ref b)]) hx hb nd_Law_law_772 hl (by decide) rfl (fun ls hl => ?_)
    refine lv_aload_n hx hb nd_Law_law_774 rfl (lv_at hl 3 rfl) ?_
    refine lv_aload_n hx hb nd_Law_law_775 rfl (lv_at hl 5 rfl) ?_
    refine lv_iload hx hb nd_Law_law_776 (lv_at hl 1 rfl) ?_
    refine lv_iconst (v := 1) hx hb nd_Law_law_778 (by decide) ?_
    refine lv_iadd hx hb nd_Law_law_779 ?_
    refine k_sld (n := n) (j := 1) hx hb hX hbl hbA hS (k_sidx rfl) (by omega) hL nd_Law_law_780 ?_
    refine k_uVI (w2 := wA qc qm qo ca I J A L (va_up i 0 S1) a l9 o) (As := [.int (xs (n + 1))]) (rest := []) (r := S0) hx hb hml hown hts (cn_Model_dew l D ca (qm 0) (qm 1) (qm 2) (qm 3) (qm 4) (qm 5) (qm 6) (qm 7) (qm 8) (qm 9) (qm 10) (qm 11) (qm 12) (qm 13) (qm 14) (qm 15) (qm 16) (qm 17) (qm 18) (qm 19) (qm 20) (qm 21) (qm 22) (qm 23) (qm 24) (i 0) (i 1) (i 2) (i 3) (i 4) (i 5) (i 6) (i 7) (l9 0) (a 1) (xs (n + 1)) S0 S1 e2 _) kc_Model_dew kv_Model_dew tt_948 ⟨by decide, by decide⟩ rfl rfl hP hK hD hS hA [63, 64, 69] rfl (by decide +kernel) rfl rfl 0 rfl rfl rfl rfl hl.1 (Nat.le_of_ble_eq_true rfl) rfl nd_Law_law_781 ⟨by show _ ≤ 601024; omega, by show _ ≤ 7293034; omega⟩ (fun H locs hP hD hS => ?_)
    refine lv_istore (lv' := [(6, .int S0), (5, .int 1), (4, .int (nI n)), (3, .ref qo), (2, .ref (qm 0)), (1, .ref (qc 0)), (0, .ref b)]) hx hb nd_Law_law_784 hl (by decide) rfl (fun ls hl => ?_)
    refine lv_aload_n hx hb nd_Law_law_786 rfl (lv_at hl 4 rfl) ?_
    refine k_rVI (As := []) (rest := []) (r := S1) hx hb hml hown hts (cn_Model_thrown l D ca (qm 0) (qm 1) (qm 2) (qm 3) (qm 4) (qm 5) (qm 6) (qm 7) (qm 8) (qm 9) (qm 10) (qm 11) (qm 12) (qm 13) (qm 14) (qm 15) (qm 16) (qm 17) (qm 18) (qm 19) (qm 20) (qm 21) (qm 22) (qm 23) (qm 24) ((va_up i 0 S1) 0) ((va_up i 0 S1) 1) ((va_up i 0 S1) 2) ((va_up i 0 S1) 3) ((va_up i 0 S1) 4) ((va_up i 0 S1) 5) ((va_up i 0 S1) 6) ((va_up i 0 S1) 7) S1 rfl) kc_Model_thrown kv_Model_thrown tt_820 ⟨by decide, by decide⟩ rfl rfl hP hK [63] rfl 0 rfl rfl rfl rfl hl.1 (Nat.le_of_ble_eq_true rfl) rfl nd_Law_law_787 ⟨by show _ ≤ 601024; omega, by show _ ≤ 7293034; omega⟩ ?_
    refine lv_iload hx hb nd_Law_law_790 (lv_at hl 1 rfl) ?_
    refine lv_icmp_eq (tgt := 797) hx hb nd_Law_law_792 (by decide) (fun c6 => ?_) (fun c6 => ?_)
    rotate_left
    · exact absurd et c6
    refine lv_iload hx hb nd_Law_law_797 (lv_at hl 1 rfl) ?_
    refine lv_if_ne (tgt := 821) hx hb nd_Law_law_799 (by decide) (fun c7 => ?_) (fun c7 => ?_)
    rotate_left
    · exact absurd c7 (by decide)
    refine lv_goto (tgt := 1452) hx hb nd_Law_law_821 (by decide) ?_
    refine W.widen (k := 400 + n + 1) (n := 20000 + 6 * n + 6) (by omega) (by omega) ?_
    exact hnext _ _ _ _ _ _ _ _ _ _ _ hRel hP hD hS (lv_sub hl [2, 3, 4, 5, 6] rfl)
