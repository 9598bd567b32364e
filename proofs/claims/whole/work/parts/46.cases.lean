set_option maxHeartbeats 8000000 in
set_option maxRecDepth 100000 in
theorem lc_plan {p : Program} {l : Launch} {e : Env} {s : State} {m : MethodId} {below : List Frame} {meth : Method} {c : Code} {D : va_G} {ca : Nat → ClassId} {b Ls : Nat} {xs : Nat → Int32} (C0 : lw_At p s m meth c b Ls xs) (hL : Ls ≤ 2560) (hlt : l.stackTraces = false) (hev0 : xt_ev s s.heap) (hK : va_K D vwCl (tyG ca) s) {Rel : (Nat → Int32) → (Nat → Int64) → (Nat → Nat → Int32) → (Nat → Nat → Int64) → (Nat → Int32) → (Nat → Nat → Int32) → (Nat → Nat → Int64) → Prop} {qc qm : Nat → Nat} {qo : Nat} {I : Nat → Int32} {J : Nat → Int64} {A : Nat → Nat → Int32} {L : Nat → Nat → Int64} {i : Nat → Int32} {a : Nat → Nat → Int32} {l9 : Nat → Nat → Int64} {o : Nat → Int64} {n : Nat} (hn : n + 5 ≤ Ls) {H : Heap} {locs : List Loc} {ls : Array Slot} (hP : va_P D vwCl (wA qc qm qo ca I J A L i a l9 o) H) (hD : va_D (fun q : Nat => s.heap.size ≤ q) (wA qc qm qo ca I J A L i a l9 o)) (hS : va_S (fun q : Nat => s.heap.size ≤ q) s.heap H locs) (hl : lv_has ls 8 [(4, .int (nI n)), (3, .ref qo), (2, .ref (qm 0)), (1, .ref (qc 0)), (0, .ref b)]) (hst : st_plan Rel I J A L i a l9 o (xs (n + 1)) (xs (n + 2)) (xs (n + 3))) (hnext : ∀ (I : Nat → Int32) (J : Nat → Int64) (A : Nat → Nat → Int32) (L : Nat → Nat → Int64) (i : Nat → Int32) (a : Nat → Nat → Int32) (l9 : Nat → Nat → Int64) (o : Nat → Int64) (H : Heap) (locs : List Loc) (ls : Array Slot), Rel I J A L i a l9 → va_P D vwCl (wA qc qm qo ca I J A L i a l9 o) H → va_D (fun q : Nat => s.heap.size ≤ q) (wA qc qm qo ca I J A L i a l9 o) → va_S (fun q : Nat => s.heap.size ≤ q) s.heap H locs → lv_has ls 8 [(4, .int (nI n)), (3, .ref qo), (2, .ref (qm 0)), (1, .ref (qc 0)), (0, .ref b)] → W p l e room_1 s m #[Value.ref b] below meth c H locs (400 + n + 1) (20000 + 6 * n + 6) (lw_Z below #[Value.ref b] s) (F0 m 1452 ls [])) : W p l e room_1 s m #[Value.ref b] below meth c H locs (400 + n) (20000 + 6 * n) (lw_Z below #[Value.ref b] s) (F0 m 1316 ls []) := by
  obtain ⟨hx, hb, hr, hml, hown, hts0, hX, hbl, hlocks, hgv⟩ := C0
  have hts : ∀ w ∈ TT, w.before #[Value.ref b] s = true := fun w h => hts0 w (List.mem_filter.mp h).1
  have hA : ∀ q : Nat, s.heap.size ≤ q → (fun q : Nat => s.heap.size ≤ q) q := fun _ h => h
  have hbA : ¬ (fun q : Nat => s.heap.size ≤ q) b := Nat.not_le.mpr hbl
  have hown : s.vm.findClass nR_Law = some m.cls := hown
  have hev : xt_ev s H := k_evH hev0 hS
  unfold st_plan at hst
  rcases hst with ⟨R1, R2, R3, R4, R5, R6, R7, R8, R9, R10, R11, R12, R13, R14, R15, R16, R17, R18, S0, S1, S2, S3, S4, S5, S6, S7, S8, S9, e1, e2, et, ea, hRel⟩ | ⟨S0, S1, S2, S3, S4, S5, S6, S7, S8, S9, e1, e2, et, hRel⟩
  ·
    refine lv_aload_n hx hb nd_Law_law_1316 rfl (lv_at hl 3 rfl) ?_
    refine lv_aload_n hx hb nd_Law_law_1317 rfl (lv_at hl 4 rfl) ?_
    refine lv_iload hx hb nd_Law_law_1318 (lv_at hl 0 rfl) ?_
    refine lv_iconst (v := 1) hx hb nd_Law_law_1320 (by decide) ?_
    refine lv_iadd hx hb nd_Law_law_1321 ?_
    refine k_sld (n := n) (j := 1) hx hb hX hbl hbA hS (k_sidx rfl) (by omega) hL nd_Law_law_1322 ?_
    refine lv_aload_n hx hb nd_Law_law_1323 rfl (lv_at hl 4 rfl) ?_
    refine lv_iload hx hb nd_Law_law_1324 (lv_at hl 0 rfl) ?_
    refine lv_iconst (v := 2) hx hb nd_Law_law_1326 (by decide) ?_
    refine lv_iadd hx hb nd_Law_law_1327 ?_
    refine k_sld (n := n) (j := 2) hx hb hX hbl hbA hS (k_sidx rfl) (by omega) hL nd_Law_law_1328 ?_
    refine lv_aload_n hx hb nd_Law_law_1329 rfl (lv_at hl 4 rfl) ?_
    refine lv_iload hx hb nd_Law_law_1330 (lv_at hl 0 rfl) ?_
    refine lv_iconst (v := 3) hx hb nd_Law_law_1332 (by decide) ?_
    refine lv_iadd hx hb nd_Law_law_1333 ?_
    refine k_sld (n := n) (j := 3) hx hb hX hbl hbA hS (k_sidx rfl) (by omega) hL nd_Law_law_1334 ?_
    refine lv_aload_n hx hb nd_Law_law_1335 rfl (lv_at hl 1 rfl) ?_
    refine k_mSWI (w2 := wA qc qm qo ca (va_up (va_up (va_up (va_up I 6 R1) 7 R2) 8 R5) 9 R9) (va_up (va_up (va_up J 3 R3) 4 R4) 5 R10) (va_up (va_up (va_up (va_up (va_up (va_up (va_up A 9 R6) 10 R7) 11 R11) 12 R12) 13 R13) 14 R14) 15 R15) (va_up (va_up (va_up L 5 R8) 3 R16) 4 R17) i a l9 R18) (As := [.ref (qc 0), .int (xs (n + 1)), .int (xs (n + 2)), .int (xs (n + 3)), .ref qo]) (rest := []) (r := 0) hx hb hml hown hts (cn_Law_plan l D ca (qc 0) (qc 1) (qc 19) (qc 34) (qc 47) (qc 48) (qc 58) (qc 20) (qc 23) (qc 27) (qc 28) (qc 2) (qc 5) (qc 9) (qc 13) (qc 3) (qc 4) (qc 21) (qc 22) (qc 6) (qc 7) (qc 8) (qc 24) (qc 25) (qc 26) (qc 10) (qc 29) (qc 30) (qc 31) (qc 32) (qc 33) (qc 14) (qc 15) (qc 16) (qc 17) (qc 18) (qc 11) (qc 12) qo (I 0) (I 1) (I 2) (J 0) (J 1) (I 6) (I 7) (J 3) (J 4) (I 3) (I 8) (A 0) (A 9) (A 1) (A 10) (L 2) (L 5) (I 4) (J 2) (I 9) (J 5) (A 4) (A 11) (A 5) (A 12) (A 6) (A 13) (A 7) (A 14) (A 8) (A 15) (L 3) (L 4) (I 5) (A 3) (A 2) o (xs (n + 1)) (xs (n + 2)) (xs (n + 3)) (0 : Int32) R1 R2 R3 R4 R5 R6 R7 R8 R9 R10 R11 R12 R13 R14 R15 R16 R17 R18 e1 _) kc_Law_plan ks_Law_plan tt_664 ⟨by decide, by decide⟩ rfl rfl hP hK hD hS hA [0, 19, 1, 2, 20, 5, 23, 6, 24, 7, 25, 8, 26, 9, 27, 28, 13, 14, 29, 15, 30, 16, 31, 17, 32, 18, 33, 21, 22, 10, 12, 11, 88] rfl (by decide +kernel) rfl [some 0, some 2, some 3, none, none, some 5, some 7, some 9, some 11, some 13, some 29, some 31, some 30, some 16, some 17, some 19, some 21, some 23, some 25, some 1, some 4, some 27, some 28, some 6, some 8, some 10, some 12, some 14, some 15, some 18, some 20, some 22, some 24, some 26, none, none, none, none, none, none, none, none, none, none, none, none, none, none, none, none, none, none, none, none, none, none, none, none, none, none, none, none, none, none, none, none, none, none, none, none, none, none, none, none, none, none, none, none, none, none, none, none, none, none, none, none, none, none, some 32] (by decide +kernel) rfl rfl hl.1 (Nat.le_of_ble_eq_true rfl) rfl nd_Law_law_1336 ⟨by show _ ≤ 601024; omega, by show _ ≤ 7293034; omega⟩ (fun H locs hP hD hS => ?_)
    refine W.widen (k := 400 + n) (n := 20000 + 6 * n) (by omega) (by omega) ?_
    refine lv_istore (lv' := [(5, .int 0), (4, .int (nI n)), (3, .ref qo), (2, .ref (qm 0)), (1, .ref (qc 0)), (0, .ref b)]) hx hb nd_Law_law_1339 hl (by decide) rfl (fun ls hl => ?_)
    refine lv_aload_n hx hb nd_Law_law_1341 rfl (lv_at hl 3 rfl) ?_
    refine lv_aload_n hx hb nd_Law_law_1342 rfl (lv_at hl 5 rfl) ?_
    refine lv_iload hx hb nd_Law_law_1343 (lv_at hl 1 rfl) ?_
    refine lv_iconst (v := 1) hx hb nd_Law_law_1345 (by decide) ?_
    refine lv_iadd hx hb nd_Law_law_1346 ?_
    refine k_sld (n := n) (j := 1) hx hb hX hbl hbA hS (k_sidx rfl) (by omega) hL nd_Law_law_1347 ?_
    refine lv_aload_n hx hb nd_Law_law_1348 rfl (lv_at hl 5 rfl) ?_
    refine lv_iload hx hb nd_Law_law_1349 (lv_at hl 1 rfl) ?_
    refine lv_iconst (v := 2) hx hb nd_Law_law_1351 (by decide) ?_
    refine lv_iadd hx hb nd_Law_law_1352 ?_
    refine k_sld (n := n) (j := 2) hx hb hX hbl hbA hS (k_sidx rfl) (by omega) hL nd_Law_law_1353 ?_
    refine lv_aload_n hx hb nd_Law_law_1354 rfl (lv_at hl 5 rfl) ?_
    refine lv_iload hx hb nd_Law_law_1355 (lv_at hl 1 rfl) ?_
    refine lv_iconst (v := 3) hx hb nd_Law_law_1357 (by decide) ?_
    refine lv_iadd hx hb nd_Law_law_1358 ?_
    refine k_sld (n := n) (j := 3) hx hb hX hbl hbA hS (k_sidx rfl) (by omega) hL nd_Law_law_1359 ?_
    refine k_mVI (w2 := wA qc qm qo ca (va_up (va_up (va_up (va_up I 6 R1) 7 R2) 8 R5) 9 R9) (va_up (va_up (va_up J 3 R3) 4 R4) 5 R10) (va_up (va_up (va_up (va_up (va_up (va_up (va_up A 9 R6) 10 R7) 11 R11) 12 R12) 13 R13) 14 R14) 15 R15) (va_up (va_up (va_up L 5 R8) 3 R16) 4 R17) (va_up i 0 S1) (va_up (va_up (va_up (va_up a 4 S4) 7 S5) 5 S7) 6 S8) (va_up (va_up (va_up (va_up l9 1 S2) 3 S3) 0 S6) 2 S9) R18) (As := [.int (xs (n + 1)), .int (xs (n + 2)), .int (xs (n + 3))]) (rest := []) (r := S0) hx hb hml hown hts (cn_Model_plan l D ca (qm 0) (qm 1) (qm 2) (qm 3) (qm 4) (qm 5) (qm 6) (qm 7) (qm 8) (qm 9) (qm 10) (qm 11) (qm 12) (qm 13) (qm 14) (qm 15) (qm 16) (qm 17) (qm 18) (qm 19) (qm 20) (qm 21) (qm 22) (qm 23) (qm 24) (i 0) (i 1) (i 2) (i 3) (i 4) (i 5) (i 6) (i 7) (l9 0) (l9 1) (l9 2) (l9 3) (a 4) (a 5) (a 6) (a 7) (a 0) (a 1) (a 3) (a 2) (xs (n + 1)) (xs (n + 2)) (xs (n + 3)) S0 S1 S2 S3 S4 S5 S6 S7 S8 S9 e2 _) kc_Model_plan kv_Model_plan tt_989 ⟨by decide, by decide⟩ rfl rfl hP hK hD hS hA [63, 64, 65, 66, 67, 72, 73, 74, 75, 68, 69, 71, 70] rfl (by decide +kernel) rfl [none, none, none, none, none, none, none, none, none, none, none, none, none, none, none, none, none, none, none, none, none, none, none, none, none, none, none, none, none, none, none, none, none, none, none, none, none, none, none, none, none, none, none, none, none, none, none, none, none, none, none, none, none, none, none, none, none, none, none, none, none, none, none, some 0, some 1, some 2, some 3, some 4, some 9, some 10, some 12, some 11, some 5, some 6, some 7, some 8, none, none, none, none, none, none, none, none, none, none, none, none, none] (by decide +kernel) rfl 0 rfl rfl rfl rfl hl.1 (Nat.le_of_ble_eq_true rfl) rfl nd_Law_law_1360 ⟨by show _ ≤ 601024; omega, by show _ ≤ 7293034; omega⟩ (fun H locs hP hD hS => ?_)
    refine lv_istore (lv' := [(6, .int S0), (5, .int 0), (4, .int (nI n)), (3, .ref qo), (2, .ref (qm 0)), (1, .ref (qc 0)), (0, .ref b)]) hx hb nd_Law_law_1363 hl (by decide) rfl (fun ls hl => ?_)
    refine lv_aload_n hx hb nd_Law_law_1365 rfl (lv_at hl 4 rfl) ?_
    refine k_rVI (As := []) (rest := []) (r := S1) hx hb hml hown hts (cn_Model_thrown l D ca (qm 0) (qm 1) (qm 2) (qm 3) (qm 4) (qm 5) (qm 6) (qm 7) (qm 8) (qm 9) (qm 10) (qm 11) (qm 12) (qm 13) (qm 14) (qm 15) (qm 16) (qm 17) (qm 18) (qm 19) (qm 20) (qm 21) (qm 22) (qm 23) (qm 24) ((va_up i 0 S1) 0) ((va_up i 0 S1) 1) ((va_up i 0 S1) 2) ((va_up i 0 S1) 3) ((va_up i 0 S1) 4) ((va_up i 0 S1) 5) ((va_up i 0 S1) 6) ((va_up i 0 S1) 7) S1 rfl) kc_Model_thrown kv_Model_thrown tt_820 ⟨by decide, by decide⟩ rfl rfl hP hK [63] rfl 0 rfl rfl rfl rfl hl.1 (Nat.le_of_ble_eq_true rfl) rfl nd_Law_law_1366 ⟨by show _ ≤ 601024; omega, by show _ ≤ 7293034; omega⟩ ?_
    refine lv_iload hx hb nd_Law_law_1369 (lv_at hl 1 rfl) ?_
    refine lv_icmp_eq (tgt := 1376) hx hb nd_Law_law_1371 (by decide) (fun c1 => ?_) (fun c1 => ?_)
    rotate_left
    · exact absurd et c1
    refine lv_iload hx hb nd_Law_law_1376 (lv_at hl 1 rfl) ?_
    refine lv_if_ne (tgt := 1393) hx hb nd_Law_law_1378 (by decide) (fun c2 => ?_) (fun c2 => ?_)
    · exact absurd rfl c2
    refine lv_aload_n hx hb nd_Law_law_1381 rfl (lv_at hl 3 rfl) ?_
    refine lv_iconst (v := 0) hx hb nd_Law_law_1382 (by decide) ?_
    refine va_lald hx hb hK hP 88 1 rfl rfl (by unfold vp_in; decide) nd_Law_law_1383 ?_
    refine lv_iload hx hb nd_Law_law_1384 (lv_at hl 0 rfl) ?_
    refine lv_i2l hx hb nd_Law_law_1386 rfl ?_
    refine W.lcmp hx hb nd_Law_law_1387 ?_
    refine lv_if_eq (tgt := 1393) hx hb nd_Law_law_1388 (by decide) (fun c3 => ?_) (fun c3 => ?_)
    rotate_left
    · exact absurd ea c3
    refine lv_goto (tgt := 1452) hx hb nd_Law_law_1393 (by decide) ?_
    refine W.widen (k := 400 + n + 1) (n := 20000 + 6 * n + 6) (by omega) (by omega) ?_
    exact hnext _ _ _ _ _ _ _ _ _ _ _ hRel hP hD hS (lv_sub hl [2, 3, 4, 5, 6] rfl)
  ·
    refine lv_aload_n hx hb nd_Law_law_1316 rfl (lv_at hl 3 rfl) ?_
    refine lv_aload_n hx hb nd_Law_law_1317 rfl (lv_at hl 4 rfl) ?_
    refine lv_iload hx hb nd_Law_law_1318 (lv_at hl 0 rfl) ?_
    refine lv_iconst (v := 1) hx hb nd_Law_law_1320 (by decide) ?_
    refine lv_iadd hx hb nd_Law_law_1321 ?_
    refine k_sld (n := n) (j := 1) hx hb hX hbl hbA hS (k_sidx rfl) (by omega) hL nd_Law_law_1322 ?_
    refine lv_aload_n hx hb nd_Law_law_1323 rfl (lv_at hl 4 rfl) ?_
    refine lv_iload hx hb nd_Law_law_1324 (lv_at hl 0 rfl) ?_
    refine lv_iconst (v := 2) hx hb nd_Law_law_1326 (by decide) ?_
    refine lv_iadd hx hb nd_Law_law_1327 ?_
    refine k_sld (n := n) (j := 2) hx hb hX hbl hbA hS (k_sidx rfl) (by omega) hL nd_Law_law_1328 ?_
    refine lv_aload_n hx hb nd_Law_law_1329 rfl (lv_at hl 4 rfl) ?_
    refine lv_iload hx hb nd_Law_law_1330 (lv_at hl 0 rfl) ?_
    refine lv_iconst (v := 3) hx hb nd_Law_law_1332 (by decide) ?_
    refine lv_iadd hx hb nd_Law_law_1333 ?_
    refine k_sld (n := n) (j := 3) hx hb hX hbl hbA hS (k_sidx rfl) (by omega) hL nd_Law_law_1334 ?_
    refine lv_aload_n hx hb nd_Law_law_1335 rfl (lv_at hl 1 rfl) ?_
    refine k_mSWX (w2 := wA qc qm qo ca I J A L i a l9 o) (As := [.ref (qc 0), .int (xs (n + 1)), .int (xs (n + 2)), .int (xs (n + 3)), .ref qo]) (rest := []) (r := 1) hx hb hml hown hts (hx_Law_plan_3 l hlt D ca (qc 0) (qc 1) (qc 19) (qc 34) (qc 47) (qc 48) (qc 58) (qc 20) (qc 23) (qc 27) (qc 28) (qc 2) (qc 5) (qc 9) (qc 13) (qc 3) (qc 4) (qc 21) (qc 22) (qc 6) (qc 7) (qc 8) (qc 24) (qc 25) (qc 26) (qc 10) (qc 29) (qc 30) (qc 31) (qc 32) (qc 33) (qc 14) (qc 15) (qc 16) (qc 17) (qc 18) (qc 11) (qc 12) qo (I 0) (I 1) (I 2) (J 0) (J 1) (I 6) (I 7) (J 3) (J 4) (I 3) (I 8) (A 0) (A 9) (A 1) (A 10) (L 2) (L 5) (I 4) (J 2) (I 9) (J 5) (A 4) (A 11) (A 5) (A 12) (A 6) (A 13) (A 7) (A 14) (A 8) (A 15) (L 3) (L 4) (I 5) (A 3) (A 2) o (xs (n + 1)) (xs (n + 2)) (xs (n + 3)) e1 _) kc_Law_plan ks_Law_plan tt_664 ⟨by decide, by decide⟩ rfl rfl hP hK hD hS hA hev [0, 19, 1, 2, 20, 5, 23, 6, 24, 7, 25, 8, 26, 9, 27, 28, 13, 14, 29, 15, 30, 16, 31, 17, 32, 18, 33, 21, 22, 10, 12, 11, 88] rfl (by decide +kernel) rfl [some 0, some 2, some 3, none, none, some 5, some 7, some 9, some 11, some 13, some 29, some 31, some 30, some 16, some 17, some 19, some 21, some 23, some 25, some 1, some 4, some 27, some 28, some 6, some 8, some 10, some 12, some 14, some 15, some 18, some 20, some 22, some 24, some 26, none, none, none, none, none, none, none, none, none, none, none, none, none, none, none, none, none, none, none, none, none, none, none, none, none, none, none, none, none, none, none, none, none, none, none, none, none, none, none, none, none, none, none, none, none, none, none, none, none, none, none, none, none, none, some 32] (by decide +kernel) rfl rfl hl.1 (Nat.le_of_ble_eq_true rfl) rfl nd_Law_law_1336 ⟨by show _ ≤ 601024; omega, by show _ ≤ 7293034; omega⟩ (fun H locs hP hD hS => ?_)
    refine W.widen (k := 400 + n + 1) (n := 20000 + 6 * n + 6) (by omega) (by omega) ?_
    refine lv_istore (lv' := [(5, .int 1), (4, .int (nI n)), (3, .ref qo), (2, .ref (qm 0)), (1, .ref (qc 0)), (0, .ref b)]) hx hb nd_Law_law_1339 hl (by decide) rfl (fun ls hl => ?_)
    refine lv_aload_n hx hb nd_Law_law_1341 rfl (lv_at hl 3 rfl) ?_
    refine lv_aload_n hx hb nd_Law_law_1342 rfl (lv_at hl 5 rfl) ?_
    refine lv_iload hx hb nd_Law_law_1343 (lv_at hl 1 rfl) ?_
    refine lv_iconst (v := 1) hx hb nd_Law_law_1345 (by decide) ?_
    refine lv_iadd hx hb nd_Law_law_1346 ?_
    refine k_sld (n := n) (j := 1) hx hb hX hbl hbA hS (k_sidx rfl) (by omega) hL nd_Law_law_1347 ?_
    refine lv_aload_n hx hb nd_Law_law_1348 rfl (lv_at hl 5 rfl) ?_
    refine lv_iload hx hb nd_Law_law_1349 (lv_at hl 1 rfl) ?_
    refine lv_iconst (v := 2) hx hb nd_Law_law_1351 (by decide) ?_
    refine lv_iadd hx hb nd_Law_law_1352 ?_
    refine k_sld (n := n) (j := 2) hx hb hX hbl hbA hS (k_sidx rfl) (by omega) hL nd_Law_law_1353 ?_
    refine lv_aload_n hx hb nd_Law_law_1354 rfl (lv_at hl 5 rfl) ?_
    refine lv_iload hx hb nd_Law_law_1355 (lv_at hl 1 rfl) ?_
    refine lv_iconst (v := 3) hx hb nd_Law_law_1357 (by decide) ?_
    refine lv_iadd hx hb nd_Law_law_1358 ?_
    refine k_sld (n := n) (j := 3) hx hb hX hbl hbA hS (k_sidx rfl) (by omega) hL nd_Law_law_1359 ?_
    refine k_mVI (w2 := wA qc qm qo ca I J A L (va_up i 0 S1) (va_up (va_up (va_up (va_up a 4 S4) 7 S5) 5 S7) 6 S8) (va_up (va_up (va_up (va_up l9 1 S2) 3 S3) 0 S6) 2 S9) o) (As := [.int (xs (n + 1)), .int (xs (n + 2)), .int (xs (n + 3))]) (rest := []) (r := S0) hx hb hml hown hts (cn_Model_plan l D ca (qm 0) (qm 1) (qm 2) (qm 3) (qm 4) (qm 5) (qm 6) (qm 7) (qm 8) (qm 9) (qm 10) (qm 11) (qm 12) (qm 13) (qm 14) (qm 15) (qm 16) (qm 17) (qm 18) (qm 19) (qm 20) (qm 21) (qm 22) (qm 23) (qm 24) (i 0) (i 1) (i 2) (i 3) (i 4) (i 5) (i 6) (i 7) (l9 0) (l9 1) (l9 2) (l9 3) (a 4) (a 5) (a 6) (a 7) (a 0) (a 1) (a 3) (a 2) (xs (n + 1)) (xs (n + 2)) (xs (n + 3)) S0 S1 S2 S3 S4 S5 S6 S7 S8 S9 e2 _) kc_Model_plan kv_Model_plan tt_989 ⟨by decide, by decide⟩ rfl rfl hP hK hD hS hA [63, 64, 65, 66, 67, 72, 73, 74, 75, 68, 69, 71, 70] rfl (by decide +kernel) rfl [none, none, none, none, none, none, none, none, none, none, none, none, none, none, none, none, none, none, none, none, none, none, none, none, none, none, none, none, none, none, none, none, none, none, none, none, none, none, none, none, none, none, none, none, none, none, none, none, none, none, none, none, none, none, none, none, none, none, none, none, none, none, none, some 0, some 1, some 2, some 3, some 4, some 9, some 10, some 12, some 11, some 5, some 6, some 7, some 8, none, none, none, none, none, none, none, none, none, none, none, none, none] (by decide +kernel) rfl 0 rfl rfl rfl rfl hl.1 (Nat.le_of_ble_eq_true rfl) rfl nd_Law_law_1360 ⟨by show _ ≤ 601024; omega, by show _ ≤ 7293034; omega⟩ (fun H locs hP hD hS => ?_)
    refine lv_istore (lv' := [(6, .int S0), (5, .int 1), (4, .int (nI n)), (3, .ref qo), (2, .ref (qm 0)), (1, .ref (qc 0)), (0, .ref b)]) hx hb nd_Law_law_1363 hl (by decide) rfl (fun ls hl => ?_)
    refine lv_aload_n hx hb nd_Law_law_1365 rfl (lv_at hl 4 rfl) ?_
    refine k_rVI (As := []) (rest := []) (r := S1) hx hb hml hown hts (cn_Model_thrown l D ca (qm 0) (qm 1) (qm 2) (qm 3) (qm 4) (qm 5) (qm 6) (qm 7) (qm 8) (qm 9) (qm 10) (qm 11) (qm 12) (qm 13) (qm 14) (qm 15) (qm 16) (qm 17) (qm 18) (qm 19) (qm 20) (qm 21) (qm 22) (qm 23) (qm 24) ((va_up i 0 S1) 0) ((va_up i 0 S1) 1) ((va_up i 0 S1) 2) ((va_up i 0 S1) 3) ((va_up i 0 S1) 4) ((va_up i 0 S1) 5) ((va_up i 0 S1) 6) ((va_up i 0 S1) 7) S1 rfl) kc_Model_thrown kv_Model_thrown tt_820 ⟨by decide, by decide⟩ rfl rfl hP hK [63] rfl 0 rfl rfl rfl rfl hl.1 (Nat.le_of_ble_eq_true rfl) rfl nd_Law_law_1366 ⟨by show _ ≤ 601024; omega, by show _ ≤ 7293034; omega⟩ ?_
    refine lv_iload hx hb nd_Law_law_1369 (lv_at hl 1 rfl) ?_
    refine lv_icmp_eq (tgt := 1376) hx hb nd_Law_law_1371 (by decide) (fun c4 => ?_) (fun c4 => ?_)
    rotate_left
    · exact absurd et c4
    refine lv_iload hx hb nd_Law_law_1376 (lv_at hl 1 rfl) ?_
    refine lv_if_ne (tgt := 1393) hx hb nd_Law_law_1378 (by decide) (fun c5 => ?_) (fun c5 => ?_)
    rotate_left
    · exact absurd c5 (by decide)
    refine lv_goto (tgt := 1452) hx hb nd_Law_law_1393 (by decide) ?_
    refine W.widen (k := 400 + n + 1) (n := 20000 + 6 * n + 6) (by omega) (by omega) ?_
    exact hnext _ _ _ _ _ _ _ _ _ _ _ hRel hP hD hS (lv_sub hl [2, 3, 4, 5, 6] rfl)
