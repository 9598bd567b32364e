set_option maxHeartbeats 8000000 in
set_option maxRecDepth 100000 in
theorem lc_room {p : Program} {l : Launch} {e : Env} {s : State} {m : MethodId} {below : List Frame} {meth : Method} {c : Code} {D : va_G} {ca : Nat → ClassId} {b Ls : Nat} {xs : Nat → Int32} (C0 : lw_At p s m meth c b Ls xs) (hL : Ls ≤ 2560) (hlt : l.stackTraces = false) (hev0 : xt_ev s s.heap) (hK : va_K D vwCl (tyG ca) s) {Rel : (Nat → Int32) → (Nat → Int64) → (Nat → Nat → Int32) → (Nat → Nat → Int64) → (Nat → Int32) → (Nat → Nat → Int32) → (Nat → Nat → Int64) → Prop} {qc qm : Nat → Nat} {qo : Nat} {I : Nat → Int32} {J : Nat → Int64} {A : Nat → Nat → Int32} {L : Nat → Nat → Int64} {i : Nat → Int32} {a : Nat → Nat → Int32} {l9 : Nat → Nat → Int64} {o : Nat → Int64} {n : Nat} (hn : n + 5 ≤ Ls) {H : Heap} {locs : List Loc} {ls : Array Slot} (hP : va_P D vwCl (wA qc qm qo ca I J A L i a l9 o) H) (hD : va_D (fun q : Nat => s.heap.size ≤ q) (wA qc qm qo ca I J A L i a l9 o)) (hS : va_S (fun q : Nat => s.heap.size ≤ q) s.heap H locs) (hl : lv_has ls 8 [(4, .int (nI n)), (3, .ref qo), (2, .ref (qm 0)), (1, .ref (qc 0)), (0, .ref b)]) (hst : st_room Rel I J A L i a l9 o (xs (n + 1)) (xs (n + 2))) (hnext : ∀ (I : Nat → Int32) (J : Nat → Int64) (A : Nat → Nat → Int32) (L : Nat → Nat → Int64) (i : Nat → Int32) (a : Nat → Nat → Int32) (l9 : Nat → Nat → Int64) (o : Nat → Int64) (H : Heap) (locs : List Loc) (ls : Array Slot), Rel I J A L i a l9 → va_P D vwCl (wA qc qm qo ca I J A L i a l9 o) H → va_D (fun q : Nat => s.heap.size ≤ q) (wA qc qm qo ca I J A L i a l9 o) → va_S (fun q : Nat => s.heap.size ≤ q) s.heap H locs → lv_has ls 8 [(4, .int (nI n)), (3, .ref qo), (2, .ref (qm 0)), (1, .ref (qc 0)), (0, .ref b)] → W p l e room_1 s m #[Value.ref b] below meth c H locs (400 + n + 1) (20000 + 6 * n + 6) (lw_Z below #[Value.ref b] s) (F0 m 1452 ls [])) : W p l e room_1 s m #[Value.ref b] below meth c H locs (400 + n) (20000 + 6 * n) (lw_Z below #[Value.ref b] s) (F0 m 144 ls []) := by
  obtain ⟨hx, hb, hr, hml, hown, hts0, hX, hbl, hlocks, hgv⟩ := C0
  have hts : ∀ w ∈ TT, w.before #[Value.ref b] s = true := fun w h => hts0 w (List.mem_filter.mp h).1
  have hA : ∀ q : Nat, s.heap.size ≤ q → (fun q : Nat => s.heap.size ≤ q) q := fun _ h => h
  have hbA : ¬ (fun q : Nat => s.heap.size ≤ q) b := Nat.not_le.mpr hbl
  have hown : s.vm.findClass nR_Law = some m.cls := hown
  have hev : xt_ev s H := k_evH hev0 hS
  unfold st_room at hst
  rcases hst with ⟨R1, R2, S0, S1, S2, e1, e2, et, ea, hRel⟩ | ⟨S0, S1, S2, e1, e2, et, hRel⟩
  ·
    refine lv_aload_n hx hb nd_Law_law_144 rfl (lv_at hl 3 rfl) ?_
    refine lv_aload_n hx hb nd_Law_law_145 rfl (lv_at hl 4 rfl) ?_
    refine lv_iload hx hb nd_Law_law_146 (lv_at hl 0 rfl) ?_
    refine lv_iconst (v := 1) hx hb nd_Law_law_148 (by decide) ?_
    refine lv_iadd hx hb nd_Law_law_149 ?_
    refine k_sld (n := n) (j := 1) hx hb hX hbl hbA hS (k_sidx rfl) (by omega) hL nd_Law_law_150 ?_
    refine lv_aload_n hx hb nd_Law_law_151 rfl (lv_at hl 4 rfl) ?_
    refine lv_iload hx hb nd_Law_law_152 (lv_at hl 0 rfl) ?_
    refine lv_iconst (v := 2) hx hb nd_Law_law_154 (by decide) ?_
    refine lv_iadd hx hb nd_Law_law_155 ?_
    refine k_sld (n := n) (j := 2) hx hb hX hbl hbA hS (k_sidx rfl) (by omega) hL nd_Law_law_156 ?_
    refine k_wSWI (wr := k_pick (wA qc qm qo ca I J A L i a l9 o) [3, 4, 5, 6, 7, 8, 9, 10, 11, 12, 13, 14, 15, 16, 17, 18, 19, 20, 21, 22, 23, 24, 25, 26, 27, 28, 29, 30, 31, 32, 33, 34, 35, 36, 37, 38, 39, 40, 41, 42, 43, 44, 45, 46, 47, 48, 49, 50, 51, 52, 53, 54, 55, 56, 57, 58, 59, 60, 61, 62, 63, 64, 65, 66, 67, 68, 69, 70, 71, 72, 73, 74, 75, 76, 77, 78, 79, 80, 81, 82, 83, 84, 85, 86, 87, 88]) (w2 := wA qc qm qo ca (va_up (va_up I 1 R1) 2 R2) J A L i a l9 o) (As := [.ref (qc 0), .int (xs (n + 1)), .int (xs (n + 2))]) (rest := []) (r := 0) hx hb hml hown hts (cn_Law_room l D ca (qc 0) (qc 1) (qc 19) (qc 34) (qc 47) (qc 48) (qc 58) (qc 2) (qc 5) (qc 9) (qc 13) (qc 3) (qc 4) (I 0) (I 1) (I 2) (J 0) (J 1) (xs (n + 1)) (xs (n + 2)) (0 : Int32) R1 R2 e1 _) kc_Law_room ks_Law_room tt_270 ⟨by decide, by decide⟩ rfl rfl hP hK hD hS hA [0, 1, 2] [3, 4, 5, 6, 7, 8, 9, 10, 11, 12, 13, 14, 15, 16, 17, 18, 19, 20, 21, 22, 23, 24, 25, 26, 27, 28, 29, 30, 31, 32, 33, 34, 35, 36, 37, 38, 39, 40, 41, 42, 43, 44, 45, 46, 47, 48, 49, 50, 51, 52, 53, 54, 55, 56, 57, 58, 59, 60, 61, 62, 63, 64, 65, 66, 67, 68, 69, 70, 71, 72, 73, 74, 75, 76, 77, 78, 79, 80, 81, 82, 83, 84, 85, 86, 87, 88] [86, 87, 88, 0, 1, 2, 3, 4, 5, 6, 7, 8, 9, 10, 11, 12, 13, 14, 15, 16, 17, 18, 19, 20, 21, 22, 23, 24, 25, 26, 27, 28, 29, 30, 31, 32, 33, 34, 35, 36, 37, 38, 39, 40, 41, 42, 43, 44, 45, 46, 47, 48, 49, 50, 51, 52, 53, 54, 55, 56, 57, 58, 59, 60, 61, 62, 63, 64, 65, 66, 67, 68, 69, 70, 71, 72, 73, 74, 75, 76, 77, 78, 79, 80, 81, 82, 83, 84, 85] rfl (by decide) rfl (by decide) (by decide) rfl (by decide) rfl hl.1 (Nat.le_of_ble_eq_true rfl) rfl nd_Law_law_157 ⟨by show _ ≤ 601024; omega, by show _ ≤ 7293034; omega⟩ (fun H locs hP hD hS => ?_)
    refine W.widen (k := 400 + n) (n := 20000 + 6 * n) (by omega) (by omega) ?_
    refine lv_istore (lv' := [(5, .int 0), (4, .int (nI n)), (3, .ref qo), (2, .ref (qm 0)), (1, .ref (qc 0)), (0, .ref b)]) hx hb nd_Law_law_160 hl (by decide) rfl (fun ls hl => ?_)
    refine lv_aload_n hx hb nd_Law_law_162 rfl (lv_at hl 3 rfl) ?_
    refine lv_aload_n hx hb nd_Law_law_163 rfl (lv_at hl 5 rfl) ?_
    refine lv_iload hx hb nd_Law_law_164 (lv_at hl 1 rfl) ?_
    refine lv_iconst (v := 1) hx hb nd_Law_law_166 (by decide) ?_
    refine lv_iadd hx hb nd_Law_law_167 ?_
    refine k_sld (n := n) (j := 1) hx hb hX hbl hbA hS (k_sidx rfl) (by omega) hL nd_Law_law_168 ?_
    refine lv_aload_n hx hb nd_Law_law_169 rfl (lv_at hl 5 rfl) ?_
    refine lv_iload hx hb nd_Law_law_170 (lv_at hl 1 rfl) ?_
    refine lv_iconst (v := 2) hx hb nd_Law_law_172 (by decide) ?_
    refine lv_iadd hx hb nd_Law_law_173 ?_
    refine k_sld (n := n) (j := 2) hx hb hX hbl hbA hS (k_sidx rfl) (by omega) hL nd_Law_law_174 ?_
    refine k_wVV (wr := k_pick (wA qc qm qo ca (va_up (va_up I 1 R1) 2 R2) J A L i a l9 o) [0, 1, 2, 3, 4, 5, 6, 7, 8, 9, 10, 11, 12, 13, 14, 15, 16, 17, 18, 19, 20, 21, 22, 23, 24, 25, 26, 27, 28, 29, 30, 31, 32, 33, 34, 35, 36, 37, 38, 39, 40, 41, 42, 43, 44, 45, 46, 47, 48, 49, 50, 51, 52, 53, 54, 55, 56, 57, 58, 59, 60, 61, 62, 64, 65, 66, 67, 68, 69, 70, 71, 72, 73, 74, 75, 76, 77, 78, 79, 80, 81, 82, 83, 84, 85, 86, 87, 88]) (w2 := wA qc qm qo ca (va_up (va_up I 1 R1) 2 R2) J A L (va_up (va_up (va_up i 0 S0) 1 S1) 2 S2) a l9 o) (As := [.int (xs (n + 1)), .int (xs (n + 2))]) (rest := []) hx hb hml hown hts (cn_Model_room l D ca (qm 0) (qm 1) (qm 2) (qm 3) (qm 4) (qm 5) (qm 6) (qm 7) (qm 8) (qm 9) (qm 10) (qm 11) (qm 12) (qm 13) (qm 14) (qm 15) (qm 16) (qm 17) (qm 18) (qm 19) (qm 20) (qm 21) (qm 22) (qm 23) (qm 24) (i 0) (i 1) (i 2) (i 3) (i 4) (i 5) (i 6) (i 7) (xs (n + 1)) (xs (n + 2)) S0 S1 S2 e2 _) kc_Model_room kv_Model_room tt_824 ⟨by decide, by decide⟩ rfl rfl hP hK hD hS hA [63] [0, 1, 2, 3, 4, 5, 6, 7, 8, 9, 10, 11, 12, 13, 14, 15, 16, 17, 18, 19, 20, 21, 22, 23, 24, 25, 26, 27, 28, 29, 30, 31, 32, 33, 34, 35, 36, 37, 38, 39, 40, 41, 42, 43, 44, 45, 46, 47, 48, 49, 50, 51, 52, 53, 54, 55, 56, 57, 58, 59, 60, 61, 62, 64, 65, 66, 67, 68, 69, 70, 71, 72, 73, 74, 75, 76, 77, 78, 79, 80, 81, 82, 83, 84, 85, 86, 87, 88] [0, 1, 2, 3, 4, 5, 6, 7, 8, 9, 10, 11, 12, 13, 14, 15, 16, 17, 18, 19, 20, 21, 22, 23, 24, 25, 26, 27, 28, 29, 30, 31, 32, 33, 34, 35, 36, 37, 38, 39, 40, 41, 42, 43, 44, 45, 46, 47, 48, 49, 50, 51, 52, 53, 54, 55, 56, 57, 58, 59, 60, 61, 62, 88, 63, 64, 65, 66, 67, 68, 69, 70, 71, 72, 73, 74, 75, 76, 77, 78, 79, 80, 81, 82, 83, 84, 85, 86, 87] rfl (by decide) rfl (by decide) (by decide) rfl (by decide) 0 rfl rfl rfl rfl hl.1 (Nat.le_of_ble_eq_true rfl) rfl nd_Law_law_175 ⟨by show _ ≤ 601024; omega, by show _ ≤ 7293034; omega⟩ (fun H locs hP hD hS => ?_)
    refine lv_aload_n hx hb nd_Law_law_178 rfl (lv_at hl 3 rfl) ?_
    refine k_rVI (As := []) (rest := []) (r := S0) hx hb hml hown hts (cn_Model_thrown l D ca (qm 0) (qm 1) (qm 2) (qm 3) (qm 4) (qm 5) (qm 6) (qm 7) (qm 8) (qm 9) (qm 10) (qm 11) (qm 12) (qm 13) (qm 14) (qm 15) (qm 16) (qm 17) (qm 18) (qm 19) (qm 20) (qm 21) (qm 22) (qm 23) (qm 24) ((va_up (va_up (va_up i 0 S0) 1 S1) 2 S2) 0) ((va_up (va_up (va_up i 0 S0) 1 S1) 2 S2) 1) ((va_up (va_up (va_up i 0 S0) 1 S1) 2 S2) 2) ((va_up (va_up (va_up i 0 S0) 1 S1) 2 S2) 3) ((va_up (va_up (va_up i 0 S0) 1 S1) 2 S2) 4) ((va_up (va_up (va_up i 0 S0) 1 S1) 2 S2) 5) ((va_up (va_up (va_up i 0 S0) 1 S1) 2 S2) 6) ((va_up (va_up (va_up i 0 S0) 1 S1) 2 S2) 7) S0 rfl) kc_Model_thrown kv_Model_thrown tt_820 ⟨by decide, by decide⟩ rfl rfl hP hK [63] rfl 0 rfl rfl rfl rfl hl.1 (Nat.le_of_ble_eq_true rfl) rfl nd_Law_law_179 ⟨by show _ ≤ 601024; omega, by show _ ≤ 7293034; omega⟩ ?_
    refine lv_iload hx hb nd_Law_law_182 (lv_at hl 0 rfl) ?_
    refine lv_icmp_eq (tgt := 189) hx hb nd_Law_law_184 (by decide) (fun c1 => ?_) (fun c1 => ?_)
    rotate_left
    · exact absurd et c1
    refine lv_goto (tgt := 1452) hx hb nd_Law_law_189 (by decide) ?_
    refine W.widen (k := 400 + n + 1) (n := 20000 + 6 * n + 6) (by omega) (by omega) ?_
    exact hnext _ _ _ _ _ _ _ _ _ _ _ hRel hP hD hS (lv_sub hl [1, 2, 3, 4, 5] rfl)
  ·
    refine lv_aload_n hx hb nd_Law_law_144 rfl (lv_at hl 3 rfl) ?_
    refine lv_aload_n hx hb nd_Law_law_145 rfl (lv_at hl 4 rfl) ?_
    refine lv_iload hx hb nd_Law_law_146 (lv_at hl 0 rfl) ?_
    refine lv_iconst (v := 1) hx hb nd_Law_law_148 (by decide) ?_
    refine lv_iadd hx hb nd_Law_law_149 ?_
    refine k_sld (n := n) (j := 1) hx hb hX hbl hbA hS (k_sidx rfl) (by omega) hL nd_Law_law_150 ?_
    refine lv_aload_n hx hb nd_Law_law_151 rfl (lv_at hl 4 rfl) ?_
    refine lv_iload hx hb nd_Law_law_152 (lv_at hl 0 rfl) ?_
    refine lv_iconst (v := 2) hx hb nd_Law_law_154 (by decide) ?_
    refine lv_iadd hx hb nd_Law_law_155 ?_
    refine k_sld (n := n) (j := 2) hx hb hX hbl hbA hS (k_sidx rfl) (by omega) hL nd_Law_law_156 ?_
    refine k_wSWX (wr := k_pick (wA qc qm qo ca I J A L i a l9 o) [3, 4, 5, 6, 7, 8, 9, 10, 11, 12, 13, 14, 15, 16, 17, 18, 19, 20, 21, 22, 23, 24, 25, 26, 27, 28, 29, 30, 31, 32, 33, 34, 35, 36, 37, 38, 39, 40, 41, 42, 43, 44, 45, 46, 47, 48, 49, 50, 51, 52, 53, 54, 55, 56, 57, 58, 59, 60, 61, 62, 63, 64, 65, 66, 67, 68, 69, 70, 71, 72, 73, 74, 75, 76, 77, 78, 79, 80, 81, 82, 83, 84, 85, 86, 87, 88]) (w2 := wA qc qm qo ca I J A L i a l9 o) (As := [.ref (qc 0), .int (xs (n + 1)), .int (xs (n + 2))]) (rest := []) (r := 1) hx hb hml hown hts (hx_Law_room_3 l hlt D ca (qc 0) (qc 1) (qc 19) (qc 34) (qc 47) (qc 48) (qc 58) (qc 2) (qc 5) (qc 9) (qc 13) (qc 3) (qc 4) (I 0) (I 1) (I 2) (J 0) (J 1) (xs (n + 1)) (xs (n + 2)) e1 _) kc_Law_room ks_Law_room tt_270 ⟨by decide, by decide⟩ rfl rfl hP hK hD hS hA hev [0, 1, 2] [3, 4, 5, 6, 7, 8, 9, 10, 11, 12, 13, 14, 15, 16, 17, 18, 19, 20, 21, 22, 23, 24, 25, 26, 27, 28, 29, 30, 31, 32, 33, 34, 35, 36, 37, 38, 39, 40, 41, 42, 43, 44, 45, 46, 47, 48, 49, 50, 51, 52, 53, 54, 55, 56, 57, 58, 59, 60, 61, 62, 63, 64, 65, 66, 67, 68, 69, 70, 71, 72, 73, 74, 75, 76, 77, 78, 79, 80, 81, 82, 83, 84, 85, 86, 87, 88] [86, 87, 88, 0, 1, 2, 3, 4, 5, 6, 7, 8, 9, 10, 11, 12, 13, 14, 15, 16, 17, 18, 19, 20, 21, 22, 23, 24, 25, 26, 27, 28, 29, 30, 31, 32, 33, 34, 35, 36, 37, 38, 39, 40, 41, 42, 43, 44, 45, 46, 47, 48, 49, 50, 51, 52, 53, 54, 55, 56, 57, 58, 59, 60, 61, 62, 63, 64, 65, 66, 67, 68, 69, 70, 71, 72, 73, 74, 75, 76, 77, 78, 79, 80, 81, 82, 83, 84, 85] rfl (by decide) rfl (by decide) (by decide) rfl (by decide) rfl hl.1 (Nat.le_of_ble_eq_true rfl) rfl nd_Law_law_157 ⟨by show _ ≤ 601024; omega, by show _ ≤ 7293034; omega⟩ (fun H locs hP hD hS => ?_)
    refine W.widen (k := 400 + n + 1) (n := 20000 + 6 * n + 6) (by omega) (by omega) ?_
    refine lv_istore (lv' := [(5, .int 1), (4, .int (nI n)), (3, .ref qo), (2, .ref (qm 0)), (1, .ref (qc 0)), (0, .ref b)]) hx hb nd_Law_law_160 hl (by decide) rfl (fun ls hl => ?_)
    refine lv_aload_n hx hb nd_Law_law_162 rfl (lv_at hl 3 rfl) ?_
    refine lv_aload_n hx hb nd_Law_law_163 rfl (lv_at hl 5 rfl) ?_
    refine lv_iload hx hb nd_Law_law_164 (lv_at hl 1 rfl) ?_
    refine lv_iconst (v := 1) hx hb nd_Law_law_166 (by decide) ?_
    refine lv_iadd hx hb nd_Law_law_167 ?_
    refine k_sld (n := n) (j := 1) hx hb hX hbl hbA hS (k_sidx rfl) (by omega) hL nd_Law_law_168 ?_
    refine lv_aload_n hx hb nd_Law_law_169 rfl (lv_at hl 5 rfl) ?_
    refine lv_iload hx hb nd_Law_law_170 (lv_at hl 1 rfl) ?_
    refine lv_iconst (v := 2) hx hb nd_Law_law_172 (by decide) ?_
    refine lv_iadd hx hb nd_Law_law_173 ?_
    refine k_sld (n := n) (j := 2) hx hb hX hbl hbA hS (k_sidx rfl) (by omega) hL nd_Law_law_174 ?_
    refine k_wVV (wr := k_pick (wA qc qm qo ca I J A L i a l9 o) [0, 1, 2, 3, 4, 5, 6, 7, 8, 9, 10, 11, 12, 13, 14, 15, 16, 17, 18, 19, 20, 21, 22, 23, 24, 25, 26, 27, 28, 29, 30, 31, 32, 33, 34, 35, 36, 37, 38, 39, 40, 41, 42, 43, 44, 45, 46, 47, 48, 49, 50, 51, 52, 53, 54, 55, 56, 57, 58, 59, 60, 61, 62, 64, 65, 66, 67, 68, 69, 70, 71, 72, 73, 74, 75, 76, 77, 78, 79, 80, 81, 82, 83, 84, 85, 86, 87, 88]) (w2 := wA qc qm qo ca I J A L (va_up (va_up (va_up i 0 S0) 1 S1) 2 S2) a l9 o) (As := [.int (xs (n + 1)), .int (xs (n + 2))]) (rest := []) hx hb hml hown hts (cn_Model_room l D ca (qm 0) (qm 1) (qm 2) (qm 3) (qm 4) (qm 5) (qm 6) (qm 7) (qm 8) (qm 9) (qm 10) (qm 11) (qm 12) (qm 13) (qm 14) (qm 15) (qm 16) (qm 17) (qm 18) (qm 19) (qm 20) (qm 21) (qm 22) (qm 23) (qm 24) (i 0) (i 1) (i 2) (i 3) (i 4) (i 5) (i 6) (i 7) (xs (n + 1)) (xs (n + 2)) S0 S1 S2 e2 _) kc_Model_room kv_Model_room tt_824 ⟨by decide, by decide⟩ rfl rfl hP hK hD hS hA [63] [0, 1, 2, 3, 4, 5, 6, 7, 8, 9, 10, 11, 12, 13, 14, 15, 16, 17, 18, 19, 20, 21, 22, 23, 24, 25, 26, 27, 28, 29, 30, 31, 32, 33, 34, 35, 36, 37, 38, 39, 40, 41, 42, 43, 44, 45, 46, 47, 48, 49, 50, 51, 52, 53, 54, 55, 56, 57, 58, 59, 60, 61, 62, 64, 65, 66, 67, 68, 69, 70, 71, 72, 73, 74, 75, 76, 77, 78, 79, 80, 81, 82, 83, 84, 85, 86, 87, 88] [0, 1, 2, 3, 4, 5, 6, 7, 8, 9, 10, 11, 12, 13, 14, 15, 16, 17, 18, 19, 20, 21, 22, 23, 24, 25, 26, 27, 28, 29, 30, 31, 32, 33, 34, 35, 36, 37, 38, 39, 40, 41, 42, 43, 44, 45, 46, 47, 48, 49, 50, 51, 52, 53, 54, 55, 56, 57, 58, 59, 60, 61, 62, 88, 63, 64, 65, 66, 67, 68, 69, 70, 71, 72, 73, 74, 75, 76, 77, 78, 79, 80, 81, 82, 83, 84, 85, 86, 87] rfl (by decide) rfl (by decide) (by decide) rfl (by decide) 0 rfl rfl rfl rfl hl.1 (Nat.le_of_ble_eq_true rfl) rfl nd_Law_law_175 ⟨by show _ ≤ 601024; omega, by show _ ≤ 7293034; omega⟩ (fun H locs hP hD hS => ?_)
    refine lv_aload_n hx hb nd_Law_law_178 rfl (lv_at hl 3 rfl) ?_
    refine k_rVI (As := []) (rest := []) (r := S0) hx hb hml hown hts (cn_Model_thrown l D ca (qm 0) (qm 1) (qm 2) (qm 3) (qm 4) (qm 5) (qm 6) (qm 7) (qm 8) (qm 9) (qm 10) (qm 11) (qm 12) (qm 13) (qm 14) (qm 15) (qm 16) (qm 17) (qm 18) (qm 19) (qm 20) (qm 21) (qm 22) (qm 23) (qm 24) ((va_up (va_up (va_up i 0 S0) 1 S1) 2 S2) 0) ((va_up (va_up (va_up i 0 S0) 1 S1) 2 S2) 1) ((va_up (va_up (va_up i 0 S0) 1 S1) 2 S2) 2) ((va_up (va_up (va_up i 0 S0) 1 S1) 2 S2) 3) ((va_up (va_up (va_up i 0 S0) 1 S1) 2 S2) 4) ((va_up (va_up (va_up i 0 S0) 1 S1) 2 S2) 5) ((va_up (va_up (va_up i 0 S0) 1 S1) 2 S2) 6) ((va_up (va_up (va_up i 0 S0) 1 S1) 2 S2) 7) S0 rfl) kc_Model_thrown kv_Model_thrown tt_820 ⟨by decide, by decide⟩ rfl rfl hP hK [63] rfl 0 rfl rfl rfl rfl hl.1 (Nat.le_of_ble_eq_true rfl) rfl nd_Law_law_179 ⟨by show _ ≤ 601024; omega, by show _ ≤ 7293034; omega⟩ ?_
    refine lv_iload hx hb nd_Law_law_182 (lv_at hl 0 rfl) ?_
    refine lv_icmp_eq (tgt := 189) hx hb nd_Law_law_184 (by decide) (fun c2 => ?_) (fun c2 => ?_)
    rotate_left
    · exact absurd et c2
    refine lv_goto (tgt := 1452) hx hb nd_Law_law_189 (by decide) ?_
    refine W.widen (k := 400 + n + 1) (n := 20000 + 6 * n + 6) (by omega) (by omega) ?_
    exact hnext _ _ _ _ _ _ _ _ _ _ _ hRel hP hD hS (lv_sub hl [1, 2, 3, 4, 5] rfl)
set_option maxHeartbeats 8000000 in
set_option maxRecDepth 100000 in
theorem lc_wall {p : Program} {l : Launch} {e : Env} {s : State} {m : MethodId} {below : List Frame} {meth : Method} {c : Code} {D : va_G} {ca : Nat → ClassId} {b Ls : Nat} {xs : Nat → Int32} (C0 : lw_At p s m meth c b Ls xs) (hL : Ls ≤ 2560) (hlt : l.stackTraces = false) (hev0 : xt_ev s s.heap) (hK : va_K D vwCl (tyG ca) s) {Rel : (Nat → Int32) → (Nat → Int64) → (Nat → Nat → Int32) → (Nat → Nat → Int64) → (Nat → Int32) → (Nat → Nat → Int32) → (Nat → Nat → Int64) → Prop} {qc qm : Nat → Nat} {qo : Nat} {I : Nat → Int32} {J : Nat → Int64} {A : Nat → Nat → Int32} {L : Nat → Nat → Int64} {i : Nat → Int32} {a : Nat → Nat → Int32} {l9 : Nat → Nat → Int64} {o : Nat → Int64} {n : Nat} (hn : n + 5 ≤ Ls) {H : Heap} {locs : List Loc} {ls : Array Slot} (hP : va_P D vwCl (wA qc qm qo ca I J A L i a l9 o) H) (hD : va_D (fun q : Nat => s.heap.size ≤ q) (wA qc qm qo ca I J A L i a l9 o)) (hS : va_S (fun q : Nat => s.heap.size ≤ q) s.heap H locs) (hl : lv_has ls 8 [(4, .int (nI n)), (3, .ref qo), (2, .ref (qm 0)), (1, .ref (qc 0)), (0, .ref b)]) (hst : st_wall Rel I J A L i a l9 o (xs (n + 1)) (xs (n + 2))) (hnext : ∀ (I : Nat → Int32) (J : Nat → Int64) (A : Nat → Nat → Int32) (L : Nat → Nat → Int64) (i : Nat → Int32) (a : Nat → Nat → Int32) (l9 : Nat → Nat → Int64) (o : Nat → Int64) (H : Heap) (locs : List Loc) (ls : Array Slot), Rel I J A L i a l9 → va_P D vwCl (wA qc qm qo ca I J A L i a l9 o) H → va_D (fun q : Nat => s.heap.size ≤ q) (wA qc qm qo ca I J A L i a l9 o) → va_S (fun q : Nat => s.heap.size ≤ q) s.heap H locs → lv_has ls 8 [(4, .int (nI n)), (3, .ref qo), (2, .ref (qm 0)), (1, .ref (qc 0)), (0, .ref b)] → W p l e room_1 s m #[Value.ref b] below meth c H locs (400 + n + 1) (20000 + 6 * n + 6) (lw_Z below #[Value.ref b] s) (F0 m 1452 ls [])) : W p l e room_1 s m #[Value.ref b] below meth c H locs (400 + n) (20000 + 6 * n) (lw_Z below #[Value.ref b] s) (F0 m 192 ls []) := by
  obtain ⟨hx, hb, hr, hml, hown, hts0, hX, hbl, hlocks, hgv⟩ := C0
  have hts : ∀ w ∈ TT, w.before #[Value.ref b] s = true := fun w h => hts0 w (List.mem_filter.mp h).1
  have hA : ∀ q : Nat, s.heap.size ≤ q → (fun q : Nat => s.heap.size ≤ q) q := fun _ h => h
  have hbA : ¬ (fun q : Nat => s.heap.size ≤ q) b := Nat.not_le.mpr hbl
  have hown : s.vm.findClass nR_Law = some m.cls := hown
  have hev : xt_ev s H := k_evH hev0 hS
  unfold st_wall at hst
  rcases hst with ⟨R1, R2, R3, R4, R5, S0, S1, S2, S3, S4, S5, e1, e2, et, ea, hRel⟩ | ⟨S0, S1, S2, S3, S4, S5, e1, e2, et, hRel⟩ | ⟨S0, S1, S2, S3, S4, S5, e1, e2, et, hRel⟩
  ·
    refine lv_aload_n hx hb nd_Law_law_192 rfl (lv_at hl 3 rfl) ?_
    refine lv_aload_n hx hb nd_Law_law_193 rfl (lv_at hl 4 rfl) ?_
    refine lv_iload hx hb nd_Law_law_194 (lv_at hl 0 rfl) ?_
    refine lv_iconst (v := 1) hx hb nd_Law_law_196 (by decide) ?_
    refine lv_iadd hx hb nd_Law_law_197 ?_
    refine k_sld (n := n) (j := 1) hx hb hX hbl hbA hS (k_sidx rfl) (by omega) hL nd_Law_law_198 ?_
    refine lv_aload_n hx hb nd_Law_law_199 rfl (lv_at hl 4 rfl) ?_
    refine lv_iload hx hb nd_Law_law_200 (lv_at hl 0 rfl) ?_
    refine lv_iconst (v := 2) hx hb nd_Law_law_202 (by decide) ?_
    refine lv_iadd hx hb nd_Law_law_203 ?_
    refine k_sld (n := n) (j := 2) hx hb hX hbl hbA hS (k_sidx rfl) (by omega) hL nd_Law_law_204 ?_
    refine lv_aload_n hx hb nd_Law_law_205 rfl (lv_at hl 1 rfl) ?_
    refine k_wSWI (wr := k_pick (wA qc qm qo ca I J A L i a l9 o) [2, 3, 4, 9, 10, 11, 12, 13, 14, 15, 16, 17, 18, 19, 20, 21, 22, 23, 24, 25, 26, 27, 28, 29, 30, 31, 32, 33, 34, 35, 36, 37, 38, 39, 40, 41, 42, 43, 44, 45, 46, 47, 48, 49, 50, 51, 52, 53, 54, 55, 56, 57, 58, 59, 60, 61, 62, 63, 64, 65, 66, 67, 68, 69, 70, 71, 72, 73, 74, 75, 76, 77, 78, 79, 80, 81, 82, 83, 84, 85, 86, 87]) (w2 := wA qc qm qo ca (va_up I 3 R4) J (va_up (va_up A 0 R1) 1 R2) (va_up L 2 R3) i a l9 R5) (As := [.ref (qc 0), .int (xs (n + 1)), .int (xs (n + 2)), .ref qo]) (rest := []) (r := 0) hx hb hml hown hts (cn_Law_wall l D ca (qc 0) (qc 1) (qc 19) (qc 34) (qc 47) (qc 48) (qc 58) (qc 2) (qc 5) (qc 9) (qc 13) (qc 6) (qc 7) (qc 8) qo (I 0) (I 3) (A 0) (A 1) (L 2) o (xs (n + 1)) (xs (n + 2)) (0 : Int32) R1 R2 R3 R4 R5 e1 _) kc_Law_wall ks_Law_wall tt_349 ⟨by decide, by decide⟩ rfl rfl hP hK hD hS hA [0, 1, 5, 6, 7, 8, 88] [2, 3, 4, 9, 10, 11, 12, 13, 14, 15, 16, 17, 18, 19, 20, 21, 22, 23, 24, 25, 26, 27, 28, 29, 30, 31, 32, 33, 34, 35, 36, 37, 38, 39, 40, 41, 42, 43, 44, 45, 46, 47, 48, 49, 50, 51, 52, 53, 54, 55, 56, 57, 58, 59, 60, 61, 62, 63, 64, 65, 66, 67, 68, 69, 70, 71, 72, 73, 74, 75, 76, 77, 78, 79, 80, 81, 82, 83, 84, 85, 86, 87] [82, 83, 0, 1, 2, 84, 85, 86, 87, 3, 4, 5, 6, 7, 8, 9, 10, 11, 12, 13, 14, 15, 16, 17, 18, 19, 20, 21, 22, 23, 24, 25, 26, 27, 28, 29, 30, 31, 32, 33, 34, 35, 36, 37, 38, 39, 40, 41, 42, 43, 44, 45, 46, 47, 48, 49, 50, 51, 52, 53, 54, 55, 56, 57, 58, 59, 60, 61, 62, 63, 64, 65, 66, 67, 68, 69, 70, 71, 72, 73, 74, 75, 76, 77, 78, 79, 80, 81, 88] rfl (by decide) rfl (by decide) (by decide) rfl (by decide) rfl hl.1 (Nat.le_of_ble_eq_true rfl) rfl nd_Law_law_206 ⟨by show _ ≤ 601024; omega, by show _ ≤ 7293034; omega⟩ (fun H locs hP hD hS => ?_)
    refine W.widen (k := 400 + n) (n := 20000 + 6 * n) (by omega) (by omega) ?_
    refine lv_istore (lv' := [(5, .int 0), (4, .int (nI n)), (3, .ref qo), (2, .ref (qm 0)), (1, .ref (qc 0)), (0, .ref b)]) hx hb nd_Law_law_209 hl (by decide) rfl (fun ls hl => ?_)
    refine lv_aload_n hx hb nd_Law_law_211 rfl (lv_at hl 3 rfl) ?_
    refine lv_aload_n hx hb nd_Law_law_212 rfl (lv_at hl 5 rfl) ?_
    refine lv_iload hx hb nd_Law_law_213 (lv_at hl 1 rfl) ?_
    refine lv_iconst (v := 1) hx hb nd_Law_law_215 (by decide) ?_
    refine lv_iadd hx hb nd_Law_law_216 ?_
    refine k_sld (n := n) (j := 1) hx hb hX hbl hbA hS (k_sidx rfl) (by omega) hL nd_Law_law_217 ?_
    refine lv_aload_n hx hb nd_Law_law_218 rfl (lv_at hl 5 rfl) ?_
    refine lv_iload hx hb nd_Law_law_219 (lv_at hl 1 rfl) ?_
    refine lv_iconst (v := 2) hx hb nd_Law_law_221 (by decide) ?_
    refine lv_iadd hx hb nd_Law_law_222 ?_
    refine k_sld (n := n) (j := 2) hx hb hX hbl hbA hS (k_sidx rfl) (by omega) hL nd_Law_law_223 ?_
    refine k_wVI (wr := k_pick (wA qc qm qo ca (va_up I 3 R4) J (va_up (va_up A 0 R1) 1 R2) (va_up L 2 R3) i a l9 R5) [0, 1, 2, 3, 4, 5, 6, 7, 8, 9, 10, 11, 12, 13, 14, 15, 16, 17, 18, 19, 20, 21, 22, 23, 24, 25, 26, 27, 28, 29, 30, 31, 32, 33, 34, 35, 36, 37, 38, 39, 40, 41, 42, 43, 44, 45, 46, 47, 48, 49, 50, 51, 52, 53, 54, 55, 56, 57, 58, 59, 60, 61, 62, 65, 66, 67, 70, 71, 72, 73, 74, 75, 76, 77, 78, 79, 80, 81, 82, 83, 84, 85, 86, 87, 88]) (w2 := wA qc qm qo ca (va_up I 3 R4) J (va_up (va_up A 0 R1) 1 R2) (va_up L 2 R3) (va_up (va_up i 0 S1) 3 S5) (va_up (va_up a 0 S2) 1 S3) (va_up l9 0 S4) R5) (As := [.int (xs (n + 1)), .int (xs (n + 2))]) (rest := []) (r := S0) hx hb hml hown hts (cn_Model_wall l D ca (qm 0) (qm 1) (qm 2) (qm 3) (qm 4) (qm 5) (qm 6) (qm 7) (qm 8) (qm 9) (qm 10) (qm 11) (qm 12) (qm 13) (qm 14) (qm 15) (qm 16) (qm 17) (qm 18) (qm 19) (qm 20) (qm 21) (qm 22) (qm 23) (qm 24) (i 0) (i 1) (i 2) (i 3) (i 4) (i 5) (i 6) (i 7) (a 0) (a 1) (l9 0) (xs (n + 1)) (xs (n + 2)) S0 S1 S2 S3 S4 S5 e2 _) kc_Model_wall kv_Model_wall tt_835 ⟨by decide, by decide⟩ rfl rfl hP hK hD hS hA [63, 68, 69, 64] [0, 1, 2, 3, 4, 5, 6, 7, 8, 9, 10, 11, 12, 13, 14, 15, 16, 17, 18, 19, 20, 21, 22, 23, 24, 25, 26, 27, 28, 29, 30, 31, 32, 33, 34, 35, 36, 37, 38, 39, 40, 41, 42, 43, 44, 45, 46, 47, 48, 49, 50, 51, 52, 53, 54, 55, 56, 57, 58, 59, 60, 61, 62, 65, 66, 67, 70, 71, 72, 73, 74, 75, 76, 77, 78, 79, 80, 81, 82, 83, 84, 85, 86, 87, 88] [0, 1, 2, 3, 4, 5, 6, 7, 8, 9, 10, 11, 12, 13, 14, 15, 16, 17, 18, 19, 20, 21, 22, 23, 24, 25, 26, 27, 28, 29, 30, 31, 32, 33, 34, 35, 36, 37, 38, 39, 40, 41, 42, 43, 44, 45, 46, 47, 48, 49, 50, 51, 52, 53, 54, 55, 56, 57, 58, 59, 60, 61, 62, 85, 88, 63, 64, 65, 86, 87, 66, 67, 68, 69, 70, 71, 72, 73, 74, 75, 76, 77, 78, 79, 80, 81, 82, 83, 84] rfl (by decide) rfl (by decide) (by decide) rfl (by decide) 0 rfl rfl rfl rfl hl.1 (Nat.le_of_ble_eq_true rfl) rfl nd_Law_law_224 ⟨by show _ ≤ 601024; omega, by show _ ≤ 7293034; omega⟩ (fun H locs hP hD hS => ?_)
    refine lv_istore (lv' := [(6, .int S0), (5, .int 0), (4, .int (nI n)), (3, .ref qo), (2, .ref (qm 0)), (1, .ref (qc 0)), (0, .ref b)]) hx hb nd_Law_law_227 hl (by decide) rfl (fun ls hl => ?_)
    refine lv_aload_n hx hb nd_Law_law_229 rfl (lv_at hl 4 rfl) ?_
    refine k_rVI (As := []) (rest := []) (r := S1) hx hb hml hown hts (cn_Model_thrown l D ca (qm 0) (qm 1) (qm 2) (qm 3) (qm 4) (qm 5) (qm 6) (qm 7) (qm 8) (qm 9) (qm 10) (qm 11) (qm 12) (qm 13) (qm 14) (qm 15) (qm 16) (qm 17) (qm 18) (qm 19) (qm 20) (qm 21) (qm 22) (qm 23) (qm 24) ((va_up (va_up i 0 S1) 3 S5) 0) ((va_up (va_up i 0 S1) 3 S5) 1) ((va_up (va_up i 0 S1) 3 S5) 2) ((va_up (va_up i 0 S1) 3 S5) 3) ((va_up (va_up i 0 S1) 3 S5) 4) ((va_up (va_up i 0 S1) 3 S5) 5) ((va_up (va_up i 0 S1) 3 S5) 6) ((va_up (va_up i 0 S1) 3 S5) 7) S1 rfl) kc_Model_thrown kv_Model_thrown tt_820 ⟨by decide, by decide⟩ rfl rfl hP hK [63] rfl 0 rfl rfl rfl rfl hl.1 (Nat.le_of_ble_eq_true rfl) rfl nd_Law_law_230 ⟨by show _ ≤ 601024; omega, by show _ ≤ 7293034; omega⟩ ?_
    refine lv_iload hx hb nd_Law_law_233 (lv_at hl 1 rfl) ?_
    refine lv_icmp_eq (tgt := 240) hx hb nd_Law_law_235 (by decide) (fun c1 => ?_) (fun c1 => ?_)
    rotate_left
    · exact absurd et c1
    refine lv_iload hx hb nd_Law_law_240 (lv_at hl 1 rfl) ?_
    refine lv_if_ne (tgt := 257) hx hb nd_Law_law_242 (by decide) (fun c2 => ?_) (fun c2 => ?_)
    · exact absurd rfl c2
    refine lv_aload_n hx hb nd_Law_law_245 rfl (lv_at hl 3 rfl) ?_
    refine lv_iconst (v := 0) hx hb nd_Law_law_246 (by decide) ?_
    refine va_lald hx hb hK hP 88 1 rfl rfl (by unfold vp_in; decide) nd_Law_law_247 ?_
    refine lv_iload hx hb nd_Law_law_248 (lv_at hl 0 rfl) ?_
    refine lv_i2l hx hb nd_Law_law_250 rfl ?_
    refine W.lcmp hx hb nd_Law_law_251 ?_
    refine lv_if_eq (tgt := 257) hx hb nd_Law_law_252 (by decide) (fun c3 => ?_) (fun c3 => ?_)
    rotate_left
    · exact absurd ea c3
    refine lv_goto (tgt := 1452) hx hb nd_Law_law_257 (by decide) ?_
    refine W.widen (k := 400 + n + 1) (n := 20000 + 6 * n + 6) (by omega) (by omega) ?_
    exact hnext _ _ _ _ _ _ _ _ _ _ _ hRel hP hD hS (lv_sub hl [2, 3, 4, 5, 6] rfl)
  ·
    refine lv_aload_n hx hb nd_Law_law_192 rfl (lv_at hl 3 rfl) ?_
    refine lv_aload_n hx hb nd_Law_law_193 rfl (lv_at hl 4 rfl) ?_
    refine lv_iload hx hb nd_Law_law_194 (lv_at hl 0 rfl) ?_
    refine lv_iconst (v := 1) hx hb nd_Law_law_196 (by decide) ?_
    refine lv_iadd hx hb nd_Law_law_197 ?_
    refine k_sld (n := n) (j := 1) hx hb hX hbl hbA hS (k_sidx rfl) (by omega) hL nd_Law_law_198 ?_
    refine lv_aload_n hx hb nd_Law_law_199 rfl (lv_at hl 4 rfl) ?_
    refine lv_iload hx hb nd_Law_law_200 (lv_at hl 0 rfl) ?_
    refine lv_iconst (v := 2) hx hb nd_Law_law_202 (by decide) ?_
    refine lv_iadd hx hb nd_Law_law_203 ?_
    refine k_sld (n := n) (j := 2) hx hb hX hbl hbA hS (k_sidx rfl) (by omega) hL nd_Law_law_204 ?_
    refine lv_aload_n hx hb nd_Law_law_205 rfl (lv_at hl 1 rfl) ?_
    refine k_wSWX (wr := k_pick (wA qc qm qo ca I J A L i a l9 o) [2, 3, 4, 9, 10, 11, 12, 13, 14, 15, 16, 17, 18, 19, 20, 21, 22, 23, 24, 25, 26, 27, 28, 29, 30, 31, 32, 33, 34, 35, 36, 37, 38, 39, 40, 41, 42, 43, 44, 45, 46, 47, 48, 49, 50, 51, 52, 53, 54, 55, 56, 57, 58, 59, 60, 61, 62, 63, 64, 65, 66, 67, 68, 69, 70, 71, 72, 73, 74, 75, 76, 77, 78, 79, 80, 81, 82, 83, 84, 85, 86, 87]) (w2 := wA qc qm qo ca I J A L i a l9 o) (As := [.ref (qc 0), .int (xs (n + 1)), .int (xs (n + 2)), .ref qo]) (rest := []) (r := 1) hx hb hml hown hts (hx_Law_wall_2 l hlt D ca (qc 0) (qc 1) (qc 19) (qc 34) (qc 47) (qc 48) (qc 58) (qc 2) (qc 5) (qc 9) (qc 13) (qc 6) (qc 7) (qc 8) qo (I 0) (I 3) (A 0) (A 1) (L 2) o (xs (n + 1)) (xs (n + 2)) e1 _) kc_Law_wall ks_Law_wall tt_349 ⟨by decide, by decide⟩ rfl rfl hP hK hD hS hA hev [0, 1, 5, 6, 7, 8, 88] [2, 3, 4, 9, 10, 11, 12, 13, 14, 15, 16, 17, 18, 19, 20, 21, 22, 23, 24, 25, 26, 27, 28, 29, 30, 31, 32, 33, 34, 35, 36, 37, 38, 39, 40, 41, 42, 43, 44, 45, 46, 47, 48, 49, 50, 51, 52, 53, 54, 55, 56, 57, 58, 59, 60, 61, 62, 63, 64, 65, 66, 67, 68, 69, 70, 71, 72, 73, 74, 75, 76, 77, 78, 79, 80, 81, 82, 83, 84, 85, 86, 87] [82, 83, 0, 1, 2, 84, 85, 86, 87, 3, 4, 5, 6, 7, 8, 9, 10, 11, 12, 13, 14, 15, 16, 17, 18, 19, 20, 21, 22, 23, 24, 25, 26, 27, 28, 29, 30, 31, 32, 33, 34, 35, 36, 37, 38, 39, 40, 41, 42, 43, 44, 45, 46, 47, 48, 49, 50, 51, 52, 53, 54, 55, 56, 57, 58, 59, 60, 61, 62, 63, 64, 65, 66, 67, 68, 69, 70, 71, 72, 73, 74, 75, 76, 77, 78, 79, 80, 81, 88] rfl (by decide) rfl (by decide) (by decide) rfl (by decide) rfl hl.1 (Nat.le_of_ble_eq_true rfl) rfl nd_Law_law_206 ⟨by show _ ≤ 601024; omega, by show _ ≤ 7293034; omega⟩ (fun H locs hP hD hS => ?_)
    refine W.widen (k := 400 + n + 1) (n := 20000 + 6 * n + 6) (by omega) (by omega) ?_
    refine lv_istore (lv' := [(5, .int 1), (4, .int (nI n)), (3, .ref qo), (2, .ref (qm 0)), (1, .ref (qc 0)), (0, .ref b)]) hx hb nd_Law_law_209 hl (by decide) rfl (fun ls hl => ?_)
    refine lv_aload_n hx hb nd_Law_law_211 rfl (lv_at hl 3 rfl) ?_
    refine lv_aload_n hx hb nd_Law_law_212 rfl (lv_at hl 5 rfl) ?_
    refine lv_iload hx hb nd_Law_law_213 (lv_at hl 1 rfl) ?_
    refine lv_iconst (v := 1) hx hb nd_Law_law_215 (by decide) ?_
    refine lv_iadd hx hb nd_Law_law_216 ?_
    refine k_sld (n := n) (j := 1) hx hb hX hbl hbA hS (k_sidx rfl) (by omega) hL nd_Law_law_217 ?_
    refine lv_aload_n hx hb nd_Law_law_218 rfl (lv_at hl 5 rfl) ?_
    refine lv_iload hx hb nd_Law_law_219 (lv_at hl 1 rfl) ?_
    refine lv_iconst (v := 2) hx hb nd_Law_law_221 (by decide) ?_
    refine lv_iadd hx hb nd_Law_law_222 ?_
    refine k_sld (n := n) (j := 2) hx hb hX hbl hbA hS (k_sidx rfl) (by omega) hL nd_Law_law_223 ?_
    refine k_wVI (wr := k_pick (wA qc qm qo ca I J A L i a l9 o) [0, 1, 2, 3, 4, 5, 6, 7, 8, 9, 10, 11, 12, 13, 14, 15, 16, 17, 18, 19, 20, 21, 22, 23, 24, 25, 26, 27, 28, 29, 30, 31, 32, 33, 34, 35, 36, 37, 38, 39, 40, 41, 42, 43, 44, 45, 46, 47, 48, 49, 50, 51, 52, 53, 54, 55, 56, 57, 58, 59, 60, 61, 62, 65, 66, 67, 70, 71, 72, 73, 74, 75, 76, 77, 78, 79, 80, 81, 82, 83, 84, 85, 86, 87, 88]) (w2 := wA qc qm qo ca I J A L (va_up (va_up i 0 S1) 3 S5) (va_up (va_up a 0 S2) 1 S3) (va_up l9 0 S4) o) (As := [.int (xs (n + 1)), .int (xs (n + 2))]) (rest := []) (r := S0) hx hb hml hown hts (cn_Model_wall l D ca (qm 0) (qm 1) (qm 2) (qm 3) (qm 4) (qm 5) (qm 6) (qm 7) (qm 8) (qm 9) (qm 10) (qm 11) (qm 12) (qm 13) (qm 14) (qm 15) (qm 16) (qm 17) (qm 18) (qm 19) (qm 20) (qm 21) (qm 22) (qm 23) (qm 24) (i 0) (i 1) (i 2) (i 3) (i 4) (i 5) (i 6) (i 7) (a 0) (a 1) (l9 0) (xs (n + 1)) (xs (n + 2)) S0 S1 S2 S3 S4 S5 e2 _) kc_Model_wall kv_Model_wall tt_835 ⟨by decide, by decide⟩ rfl rfl hP hK hD hS hA [63, 68, 69, 64] [0, 1, 2, 3, 4, 5, 6, 7, 8, 9, 10, 11, 12, 13, 14, 15, 16, 17, 18, 19, 20, 21, 22, 23, 24, 25, 26, 27, 28, 29, 30, 31, 32, 33, 34, 35, 36, 37, 38, 39, 40, 41, 42, 43, 44, 45, 46, 47, 48, 49, 50, 51, 52, 53, 54, 55, 56, 57, 58, 59, 60, 61, 62, 65, 66, 67, 70, 71, 72, 73, 74, 75, 76, 77, 78, 79, 80, 81, 82, 83, 84, 85, 86, 87, 88] [0, 1, 2, 3, 4, 5, 6, 7, 8, 9, 10, 11, 12, 13, 14, 15, 16, 17, 18, 19, 20, 21, 22, 23, 24, 25, 26, 27, 28, 29, 30, 31, 32, 33, 34, 35, 36, 37, 38, 39, 40, 41, 42, 43, 44, 45, 46, 47, 48, 49, 50, 51, 52, 53, 54, 55, 56, 57, 58, 59, 60, 61, 62, 85, 88, 63, 64, 65, 86, 87, 66, 67, 68, 69, 70, 71, 72, 73, 74, 75, 76, 77, 78, 79, 80, 81, 82, 83, 84] rfl (by decide) rfl (by decide) (by decide) rfl (by decide) 0 rfl rfl rfl rfl hl.1 (Nat.le_of_ble_eq_true rfl) rfl nd_Law_law_224 ⟨by show _ ≤ 601024; omega, by show _ ≤ 7293034; omega⟩ (fun H locs hP hD hS => ?_)
    refine lv_istore (lv' := [(6, .int S0), (5, .int 1), (4, .int (nI n)), (3, .ref qo), (2, .ref (qm 0)), (1, .ref (qc 0)), (0, .ref b)]) hx hb nd_Law_law_227 hl (by decide) rfl (fun ls hl => ?_)
    refine lv_aload_n hx hb nd_Law_law_229 rfl (lv_at hl 4 rfl) ?_
    refine k_rVI (As := []) (rest := []) (r := S1) hx hb hml hown hts (cn_Model_thrown l D ca (qm 0) (qm 1) (qm 2) (qm 3) (qm 4) (qm 5) (qm 6) (qm 7) (qm 8) (qm 9) (qm 10) (qm 11) (qm 12) (qm 13) (qm 14) (qm 15) (qm 16) (qm 17) (qm 18) (qm 19) (qm 20) (qm 21) (qm 22) (qm 23) (qm 24) ((va_up (va_up i 0 S1) 3 S5) 0) ((va_up (va_up i 0 S1) 3 S5) 1) ((va_up (va_up i 0 S1) 3 S5) 2) ((va_up (va_up i 0 S1) 3 S5) 3) ((va_up (va_up i 0 S1) 3 S5) 4) ((va_up (va_up i 0 S1) 3 S5) 5) ((va_up (va_up i 0 S1) 3 S5) 6) ((va_up (va_up i 0 S1) 3 S5) 7) S1 rfl) kc_Model_thrown kv_Model_thrown tt_820 ⟨by decide, by decide⟩ rfl rfl hP hK [63] rfl 0 rfl rfl rfl rfl hl.1 (Nat.le_of_ble_eq_true rfl) rfl nd_Law_law_230 ⟨by show _ ≤ 601024; omega, by show _ ≤ 7293034; omega⟩ ?_
    refine lv_iload hx hb nd_Law_law_233 (lv_at hl 1 rfl) ?_
    refine lv_icmp_eq (tgt := 240) hx hb nd_Law_law_235 (by decide) (fun c4 => ?_) (fun c4 => ?_)
    rotate_left
    · exact absurd et c4
    refine lv_iload hx hb nd_Law_law_240 (lv_at hl 1 rfl) ?_
    refine lv_if_ne (tgt := 257) hx hb nd_Law_law_242 (by decide) (fun c5 => ?_) (fun c5 => ?_)
    rotate_left
    · exact absurd c5 (by decide)
    refine lv_goto (tgt := 1452) hx hb nd_Law_law_257 (by decide) ?_
    refine W.widen (k := 400 + n + 1) (n := 20000 + 6 * n + 6) (by omega) (by omega) ?_
    exact hnext _ _ _ _ _ _ _ _ _ _ _ hRel hP hD hS (lv_sub hl [2, 3, 4, 5, 6] rfl)
  ·
    refine lv_aload_n hx hb nd_Law_law_192 rfl (lv_at hl 3 rfl) ?_
    refine lv_aload_n hx hb nd_Law_law_193 rfl (lv_at hl 4 rfl) ?_
    refine lv_iload hx hb nd_Law_law_194 (lv_at hl 0 rfl) ?_
    refine lv_iconst (v := 1) hx hb nd_Law_law_196 (by decide) ?_
    refine lv_iadd hx hb nd_Law_law_197 ?_
    refine k_sld (n := n) (j := 1) hx hb hX hbl hbA hS (k_sidx rfl) (by omega) hL nd_Law_law_198 ?_
    refine lv_aload_n hx hb nd_Law_law_199 rfl (lv_at hl 4 rfl) ?_
    refine lv_iload hx hb nd_Law_law_200 (lv_at hl 0 rfl) ?_
    refine lv_iconst (v := 2) hx hb nd_Law_law_202 (by decide) ?_
    refine lv_iadd hx hb nd_Law_law_203 ?_
    refine k_sld (n := n) (j := 2) hx hb hX hbl hbA hS (k_sidx rfl) (by omega) hL nd_Law_law_204 ?_
    refine lv_aload_n hx hb nd_Law_law_205 rfl (lv_at hl 1 rfl) ?_
    refine k_wSWX (wr := k_pick (wA qc qm qo ca I J A L i a l9 o) [2, 3, 4, 9, 10, 11, 12, 13, 14, 15, 16, 17, 18, 19, 20, 21, 22, 23, 24, 25, 26, 27, 28, 29, 30, 31, 32, 33, 34, 35, 36, 37, 38, 39, 40, 41, 42, 43, 44, 45, 46, 47, 48, 49, 50, 51, 52, 53, 54, 55, 56, 57, 58, 59, 60, 61, 62, 63, 64, 65, 66, 67, 68, 69, 70, 71, 72, 73, 74, 75, 76, 77, 78, 79, 80, 81, 82, 83, 84, 85, 86, 87]) (w2 := wA qc qm qo ca I J A L i a l9 o) (As := [.ref (qc 0), .int (xs (n + 1)), .int (xs (n + 2)), .ref qo]) (rest := []) (r := 2) hx hb hml hown hts (hx_Law_wall_3 l hlt D ca (qc 0) (qc 1) (qc 19) (qc 34) (qc 47) (qc 48) (qc 58) (qc 2) (qc 5) (qc 9) (qc 13) (qc 6) (qc 7) (qc 8) qo (I 0) (I 3) (A 0) (A 1) (L 2) o (xs (n + 1)) (xs (n + 2)) e1 _) kc_Law_wall ks_Law_wall tt_349 ⟨by decide, by decide⟩ rfl rfl hP hK hD hS hA hev [0, 1, 5, 6, 7, 8, 88] [2, 3, 4, 9, 10, 11, 12, 13, 14, 15, 16, 17, 18, 19, 20, 21, 22, 23, 24, 25, 26, 27, 28, 29, 30, 31, 32, 33, 34, 35, 36, 37, 38, 39, 40, 41, 42, 43, 44, 45, 46, 47, 48, 49, 50, 51, 52, 53, 54, 55, 56, 57, 58, 59, 60, 61, 62, 63, 64, 65, 66, 67, 68, 69, 70, 71, 72, 73, 74, 75, 76, 77, 78, 79, 80, 81, 82, 83, 84, 85, 86, 87] [82, 83, 0, 1, 2, 84, 85, 86, 87, 3, 4, 5, 6, 7, 8, 9, 10, 11, 12, 13, 14, 15, 16, 17, 18, 19, 20, 21, 22, 23, 24, 25, 26, 27, 28, 29, 30, 31, 32, 33, 34, 35, 36, 37, 38, 39, 40, 41, 42, 43, 44, 45, 46, 47, 48, 49, 50, 51, 52, 53, 54, 55, 56, 57, 58, 59, 60, 61, 62, 63, 64, 65, 66, 67, 68, 69, 70, 71, 72, 73, 74, 75, 76, 77, 78, 79, 80, 81, 88] rfl (by decide) rfl (by decide) (by decide) rfl (by decide) rfl hl.1 (Nat.le_of_ble_eq_true rfl) rfl nd_Law_law_206 ⟨by show _ ≤ 601024; omega, by show _ ≤ 7293034; omega⟩ (fun H locs hP hD hS => ?_)
    refine W.widen (k := 400 + n + 1) (n := 20000 + 6 * n + 6) (by omega) (by omega) ?_
    refine lv_istore (lv' := [(5, .int 2), (4, .int (nI n)), (3, .ref qo), (2, .ref (qm 0)), (1, .ref (qc 0)), (0, .ref b)]) hx hb nd_Law_law_209 hl (by decide) rfl (fun ls hl => ?_)
    refine lv_aload_n hx hb nd_Law_law_211 rfl (lv_at hl 3 rfl) ?_
    refine lv_aload_n hx hb nd_Law_law_212 rfl (lv_at hl 5 rfl) ?_
    refine lv_iload hx hb nd_Law_law_213 (lv_at hl 1 rfl) ?_
    refine lv_iconst (v := 1) hx hb nd_Law_law_215 (by decide) ?_
    refine lv_iadd hx hb nd_Law_law_216 ?_
    refine k_sld (n := n) (j := 1) hx hb hX hbl hbA hS (k_sidx rfl) (by omega) hL nd_Law_law_217 ?_
    refine lv_aload_n hx hb nd_Law_law_218 rfl (lv_at hl 5 rfl) ?_
    refine lv_iload hx hb nd_Law_law_219 (lv_at hl 1 rfl) ?_
    refine lv_iconst (v := 2) hx hb nd_Law_law_221 (by decide) ?_
    refine lv_iadd hx hb nd_Law_law_222 ?_
    refine k_sld (n := n) (j := 2) hx hb hX hbl hbA hS (k_sidx rfl) (by omega) hL nd_Law_law_223 ?_
    refine k_wVI (wr := k_pick (wA qc qm qo ca I J A L i a l9 o) [0, 1, 2, 3, 4, 5, 6, 7, 8, 9, 10, 11, 12, 13, 14, 15, 16, 17, 18, 19, 20, 21, 22, 23, 24, 25, 26, 27, 28, 29, 30, 31, 32, 33, 34, 35, 36, 37, 38, 39, 40, 41, 42, 43, 44, 45, 46, 47, 48, 49, 50, 51, 52, 53, 54, 55, 56, 57, 58, 59, 60, 61, 62, 65, 66, 67, 70, 71, 72, 73, 74, 75, 76, 77, 78, 79, 80, 81, 82, 83, 84, 85, 86, 87, 88]) (w2 := wA qc qm qo ca I J A L (va_up (va_up i 0 S1) 3 S5) (va_up (va_up a 0 S2) 1 S3) (va_up l9 0 S4) o) (As := [.int (xs (n + 1)), .int (xs (n + 2))]) (rest := []) (r := S0) hx hb hml hown hts (cn_Model_wall l D ca (qm 0) (qm 1) (qm 2) (qm 3) (qm 4) (qm 5) (qm 6) (qm 7) (qm 8) (qm 9) (qm 10) (qm 11) (qm 12) (qm 13) (qm 14) (qm 15) (qm 16) (qm 17) (qm 18) (qm 19) (qm 20) (qm 21) (qm 22) (qm 23) (qm 24) (i 0) (i 1) (i 2) (i 3) (i 4) (i 5) (i 6) (i 7) (a 0) (a 1) (l9 0) (xs (n + 1)) (xs (n + 2)) S0 S1 S2 S3 S4 S5 e2 _) kc_Model_wall kv_Model_wall tt_835 ⟨by decide, by decide⟩ rfl rfl hP hK hD hS hA [63, 68, 69, 64] [0, 1, 2, 3, 4, 5, 6, 7, 8, 9, 10, 11, 12, 13, 14, 15, 16, 17, 18, 19, 20, 21, 22, 23, 24, 25, 26, 27, 28, 29, 30, 31, 32, 33, 34, 35, 36, 37, 38, 39, 40, 41, 42, 43, 44, 45, 46, 47, 48, 49, 50, 51, 52, 53, 54, 55, 56, 57, 58, 59, 60, 61, 62, 65, 66, 67, 70, 71, 72, 73, 74, 75, 76, 77, 78, 79, 80, 81, 82, 83, 84, 85, 86, 87, 88] [0, 1, 2, 3, 4, 5, 6, 7, 8, 9, 10, 11, 12, 13, 14, 15, 16, 17, 18, 19, 20, 21, 22, 23, 24, 25, 26, 27, 28, 29, 30, 31, 32, 33, 34, 35, 36, 37, 38, 39, 40, 41, 42, 43, 44, 45, 46, 47, 48, 49, 50, 51, 52, 53, 54, 55, 56, 57, 58, 59, 60, 61, 62, 85, 88, 63, 64, 65, 86, 87, 66, 67, 68, 69, 70, 71, 72, 73, 74, 75, 76, 77, 78, 79, 80, 81, 82, 83, 84] rfl (by decide) rfl (by decide) (by decide) rfl (by decide) 0 rfl rfl rfl rfl hl.1 (Nat.le_of_ble_eq_true rfl) rfl nd_Law_law_224 ⟨by show _ ≤ 601024; omega, by show _ ≤ 7293034; omega⟩ (fun H locs hP hD hS => ?_)
    refine lv_istore (lv' := [(6, .int S0), (5, .int 2), (4, .int (nI n)), (3, .ref qo), (2, .ref (qm 0)), (1, .ref (qc 0)), (0, .ref b)]) hx hb nd_Law_law_227 hl (by decide) rfl (fun ls hl => ?_)
    refine lv_aload_n hx hb nd_Law_law_229 rfl (lv_at hl 4 rfl) ?_
    refine k_rVI (As := []) (rest := []) (r := S1) hx hb hml hown hts (cn_Model_thrown l D ca (qm 0) (qm 1) (qm 2) (qm 3) (qm 4) (qm 5) (qm 6) (qm 7) (qm 8) (qm 9) (qm 10) (qm 11) (qm 12) (qm 13) (qm 14) (qm 15) (qm 16) (qm 17) (qm 18) (qm 19) (qm 20) (qm 21) (qm 22) (qm 23) (qm 24) ((va_up (va_up i 0 S1) 3 S5) 0) ((va_up (va_up i 0 S1) 3 S5) 1) ((va_up (va_up i 0 S1) 3 S5) 2) ((va_up (va_up i 0 S1) 3 S5) 3) ((va_up (va_up i 0 S1) 3 S5) 4) ((va_up (va_up i 0 S1) 3 S5) 5) ((va_up (va_up i 0 S1) 3 S5) 6) ((va_up (va_up i 0 S1) 3 S5) 7) S1 rfl) kc_Model_thrown kv_Model_thrown tt_820 ⟨by decide, by decide⟩ rfl rfl hP hK [63] rfl 0 rfl rfl rfl rfl hl.1 (Nat.le_of_ble_eq_true rfl) rfl nd_Law_law_230 ⟨by show _ ≤ 601024; omega, by show _ ≤ 7293034; omega⟩ ?_
    refine lv_iload hx hb nd_Law_law_233 (lv_at hl 1 rfl) ?_
    refine lv_icmp_eq (tgt := 240) hx hb nd_Law_law_235 (by decide) (fun c6 => ?_) (fun c6 => ?_)
    rotate_left
    · exact absurd et c6
    refine lv_iload hx hb nd_Law_law_240 (lv_at hl 1 rfl) ?_
    refine lv_if_ne (tgt := 257) hx hb nd_Law_law_242 (by decide) (fun c7 => ?_) (fun c7 => ?_)
    rotate_left
    · exact absurd c7 (by decide)
    refine lv_goto (tgt := 1452) hx hb nd_Law_law_257 (by decide) ?_
    refine W.widen (k := 400 + n + 1) (n := 20000 + 6 * n + 6) (by omega) (by omega) ?_
    exact hnext _ _ _ _ _ _ _ _ _ _ _ hRel hP hD hS (lv_sub hl [2, 3, 4, 5, 6] rfl)
set_option maxHeartbeats 8000000 in
set_option maxRecDepth 100000 in
theorem lc_goods {p : Program} {l : Launch} {e : Env} {s : State} {m : MethodId} {below : List Frame} {meth : Method} {c : Code} {D : va_G} {ca : Nat → ClassId} {b Ls : Nat} {xs : Nat → Int32} (C0 : lw_At p s m meth c b Ls xs) (hL : Ls ≤ 2560) (hlt : l.stackTraces = false) (hev0 : xt_ev s s.heap) (hK : va_K D vwCl (tyG ca) s) {Rel : (Nat → Int32) → (Nat → Int64) → (Nat → Nat → Int32) → (Nat → Nat → Int64) → (Nat → Int32) → (Nat → Nat → Int32) → (Nat → Nat → Int64) → Prop} {qc qm : Nat → Nat} {qo : Nat} {I : Nat → Int32} {J : Nat → Int64} {A : Nat → Nat → Int32} {L : Nat → Nat → Int64} {i : Nat → Int32} {a : Nat → Nat → Int32} {l9 : Nat → Nat → Int64} {o : Nat → Int64} {n : Nat} (hn : n + 5 ≤ Ls) {H : Heap} {locs : List Loc} {ls : Array Slot} (hP : va_P D vwCl (wA qc qm qo ca I J A L i a l9 o) H) (hD : va_D (fun q : Nat => s.heap.size ≤ q) (wA qc qm qo ca I J A L i a l9 o)) (hS : va_S (fun q : Nat => s.heap.size ≤ q) s.heap H locs) (hl : lv_has ls 8 [(4, .int (nI n)), (3, .ref qo), (2, .ref (qm 0)), (1, .ref (qc 0)), (0, .ref b)]) (hst : st_goods Rel I J A L i a l9 o (xs (n + 1))) (hnext : ∀ (I : Nat → Int32) (J : Nat → Int64) (A : Nat → Nat → Int32) (L : Nat → Nat → Int64) (i : Nat → Int32) (a : Nat → Nat → Int32) (l9 : Nat → Nat → Int64) (o : Nat → Int64) (H : Heap) (locs : List Loc) (ls : Array Slot), Rel I J A L i a l9 → va_P D vwCl (wA qc qm qo ca I J A L i a l9 o) H → va_D (fun q : Nat => s.heap.size ≤ q) (wA qc qm qo ca I J A L i a l9 o) → va_S (fun q : Nat => s.heap.size ≤ q) s.heap H locs → lv_has ls 8 [(4, .int (nI n)), (3, .ref qo), (2, .ref (qm 0)), (1, .ref (qc 0)), (0, .ref b)] → W p l e room_1 s m #[Value.ref b] below meth c H locs (400 + n + 1) (20000 + 6 * n + 6) (lw_Z below #[Value.ref b] s) (F0 m 1452 ls [])) : W p l e room_1 s m #[Value.ref b] below meth c H locs (400 + n) (20000 + 6 * n) (lw_Z below #[Value.ref b] s) (F0 m 260 ls []) := by
  obtain ⟨hx, hb, hr, hml, hown, hts0, hX, hbl, hlocks, hgv⟩ := C0
  have hts : ∀ w ∈ TT, w.before #[Value.ref b] s = true := fun w h => hts0 w (List.mem_filter.mp h).1
  have hA : ∀ q : Nat, s.heap.size ≤ q → (fun q : Nat => s.heap.size ≤ q) q := fun _ h => h
  have hbA : ¬ (fun q : Nat => s.heap.size ≤ q) b := Nat.not_le.mpr hbl
  have hown : s.vm.findClass nR_Law = some m.cls := hown
  have hev : xt_ev s H := k_evH hev0 hS
  unfold st_goods at hst
  rcases hst with ⟨R1, R2, S0, S1, S2, e1, e2, et, ea, hRel⟩ | ⟨S0, S1, S2, e1, e2, et, hRel⟩
  ·
    refine lv_aload_n hx hb nd_Law_law_260 rfl (lv_at hl 3 rfl) ?_
    refine lv_aload_n hx hb nd_Law_law_261 rfl (lv_at hl 4 rfl) ?_
    refine lv_iload hx hb nd_Law_law_262 (lv_at hl 0 rfl) ?_
    refine lv_iconst (v := 1) hx hb nd_Law_law_264 (by decide) ?_
    refine lv_iadd hx hb nd_Law_law_265 ?_
    refine k_sld (n := n) (j := 1) hx hb hX hbl hbA hS (k_sidx rfl) (by omega) hL nd_Law_law_266 ?_
    refine lv_aload_n hx hb nd_Law_law_267 rfl (lv_at hl 1 rfl) ?_
    refine k_wSWI (wr := k_pick (wA qc qm qo ca I J A L i a l9 o) [2, 3, 4, 5, 6, 7, 8, 10, 11, 12, 13, 14, 15, 16, 17, 18, 19, 20, 21, 22, 23, 24, 25, 26, 27, 28, 29, 30, 31, 32, 33, 34, 35, 36, 37, 38, 39, 40, 41, 42, 43, 44, 45, 46, 47, 48, 49, 50, 51, 52, 53, 54, 55, 56, 57, 58, 59, 60, 61, 62, 63, 64, 65, 66, 67, 68, 69, 70, 71, 72, 73, 74, 75, 76, 77, 78, 79, 80, 81, 82, 83, 84, 85, 86, 87]) (w2 := wA qc qm qo ca (va_up I 4 R1) J A L i a l9 R2) (As := [.ref (qc 0), .int (xs (n + 1)), .ref qo]) (rest := []) (r := 0) hx hb hml hown hts (cn_Law_goods l D ca (qc 0) (qc 1) (qc 19) (qc 34) (qc 47) (qc 48) (qc 58) (qc 2) (qc 5) (qc 9) (qc 13) (qc 10) qo (I 0) (I 4) (J 2) o (xs (n + 1)) (0 : Int32) R1 R2 e1 _) kc_Law_goods ks_Law_goods tt_381 ⟨by decide, by decide⟩ rfl rfl hP hK hD hS hA [0, 1, 9, 88] [2, 3, 4, 5, 6, 7, 8, 10, 11, 12, 13, 14, 15, 16, 17, 18, 19, 20, 21, 22, 23, 24, 25, 26, 27, 28, 29, 30, 31, 32, 33, 34, 35, 36, 37, 38, 39, 40, 41, 42, 43, 44, 45, 46, 47, 48, 49, 50, 51, 52, 53, 54, 55, 56, 57, 58, 59, 60, 61, 62, 63, 64, 65, 66, 67, 68, 69, 70, 71, 72, 73, 74, 75, 76, 77, 78, 79, 80, 81, 82, 83, 84, 85, 86, 87] [85, 86, 0, 1, 2, 3, 4, 5, 6, 87, 7, 8, 9, 10, 11, 12, 13, 14, 15, 16, 17, 18, 19, 20, 21, 22, 23, 24, 25, 26, 27, 28, 29, 30, 31, 32, 33, 34, 35, 36, 37, 38, 39, 40, 41, 42, 43, 44, 45, 46, 47, 48, 49, 50, 51, 52, 53, 54, 55, 56, 57, 58, 59, 60, 61, 62, 63, 64, 65, 66, 67, 68, 69, 70, 71, 72, 73, 74, 75, 76, 77, 78, 79, 80, 81, 82, 83, 84, 88] rfl (by decide) rfl (by decide) (by decide) rfl (by decide) rfl hl.1 (Nat.le_of_ble_eq_true rfl) rfl nd_Law_law_268 ⟨by show _ ≤ 601024; omega, by show _ ≤ 7293034; omega⟩ (fun H locs hP hD hS => ?_)
    refine W.widen (k := 400 + n) (n := 20000 + 6 * n) (by omega) (by omega) ?_
    refine lv_istore (lv' := [(5, .int 0), (4, .int (nI n)), (3, .ref qo), (2, .ref (qm 0)), (1, .ref (qc 0)), (0, .ref b)]) hx hb nd_Law_law_271 hl (by decide) rfl (fun ls hl => ?_)
    refine lv_aload_n hx hb nd_Law_law_273 rfl (lv_at hl 3 rfl) ?_
    refine lv_aload_n hx hb nd_Law_law_274 rfl (lv_at hl 5 rfl) ?_
    refine lv_iload hx hb nd_Law_law_275 (lv_at hl 1 rfl) ?_
    refine lv_iconst (v := 1) hx hb nd_Law_law_277 (by decide) ?_
    refine lv_iadd hx hb nd_Law_law_278 ?_
    refine k_sld (n := n) (j := 1) hx hb hX hbl hbA hS (k_sidx rfl) (by omega) hL nd_Law_law_279 ?_
    refine k_wVI (wr := k_pick (wA qc qm qo ca (va_up I 4 R1) J A L i a l9 R2) [0, 1, 2, 3, 4, 5, 6, 7, 8, 9, 10, 11, 12, 13, 14, 15, 16, 17, 18, 19, 20, 21, 22, 23, 24, 25, 26, 27, 28, 29, 30, 31, 32, 33, 34, 35, 36, 37, 38, 39, 40, 41, 42, 43, 44, 45, 46, 47, 48, 49, 50, 51, 52, 53, 54, 55, 56, 57, 58, 59, 60, 61, 62, 64, 65, 66, 67, 68, 69, 70, 71, 72, 73, 74, 75, 76, 77, 78, 79, 80, 81, 82, 83, 84, 85, 86, 87, 88]) (w2 := wA qc qm qo ca (va_up I 4 R1) J A L (va_up (va_up i 0 S1) 4 S2) a l9 R2) (As := [.int (xs (n + 1))]) (rest := []) (r := S0) hx hb hml hown hts (cn_Model_goods l D ca (qm 0) (qm 1) (qm 2) (qm 3) (qm 4) (qm 5) (qm 6) (qm 7) (qm 8) (qm 9) (qm 10) (qm 11) (qm 12) (qm 13) (qm 14) (qm 15) (qm 16) (qm 17) (qm 18) (qm 19) (qm 20) (qm 21) (qm 22) (qm 23) (qm 24) (i 0) (i 1) (i 2) (i 3) (i 4) (i 5) (i 6) (i 7) (xs (n + 1)) S0 S1 S2 e2 _) kc_Model_goods kv_Model_goods tt_840 ⟨by decide, by decide⟩ rfl rfl hP hK hD hS hA [63] [0, 1, 2, 3, 4, 5, 6, 7, 8, 9, 10, 11, 12, 13, 14, 15, 16, 17, 18, 19, 20, 21, 22, 23, 24, 25, 26, 27, 28, 29, 30, 31, 32, 33, 34, 35, 36, 37, 38, 39, 40, 41, 42, 43, 44, 45, 46, 47, 48, 49, 50, 51, 52, 53, 54, 55, 56, 57, 58, 59, 60, 61, 62, 64, 65, 66, 67, 68, 69, 70, 71, 72, 73, 74, 75, 76, 77, 78, 79, 80, 81, 82, 83, 84, 85, 86, 87, 88] [0, 1, 2, 3, 4, 5, 6, 7, 8, 9, 10, 11, 12, 13, 14, 15, 16, 17, 18, 19, 20, 21, 22, 23, 24, 25, 26, 27, 28, 29, 30, 31, 32, 33, 34, 35, 36, 37, 38, 39, 40, 41, 42, 43, 44, 45, 46, 47, 48, 49, 50, 51, 52, 53, 54, 55, 56, 57, 58, 59, 60, 61, 62, 88, 63, 64, 65, 66, 67, 68, 69, 70, 71, 72, 73, 74, 75, 76, 77, 78, 79, 80, 81, 82, 83, 84, 85, 86, 87] rfl (by decide) rfl (by decide) (by decide) rfl (by decide) 0 rfl rfl rfl rfl hl.1 (Nat.le_of_ble_eq_true rfl) rfl nd_Law_law_280 ⟨by show _ ≤ 601024; omega, by show _ ≤ 7293034; omega⟩ (fun H locs hP hD hS => ?_)
    refine lv_istore (lv' := [(6, .int S0), (5, .int 0), (4, .int (nI n)), (3, .ref qo), (2, .ref (qm 0)), (1, .ref (qc 0)), (0, .ref b)]) hx hb nd_Law_law_283 hl (by decide) rfl (fun ls hl => ?_)
    refine lv_aload_n hx hb nd_Law_law_285 rfl (lv_at hl 4 rfl) ?_
    refine k_rVI (As := []) (rest := []) (r := S1) hx hb hml hown hts (cn_Model_thrown l D ca (qm 0) (qm 1) (qm 2) (qm 3) (qm 4) (qm 5) (qm 6) (qm 7) (qm 8) (qm 9) (qm 10) (qm 11) (qm 12) (qm 13) (qm 14) (qm 15) (qm 16) (qm 17) (qm 18) (qm 19) (qm 20) (qm 21) (qm 22) (qm 23) (qm 24) ((va_up (va_up i 0 S1) 4 S2) 0) ((va_up (va_up i 0 S1) 4 S2) 1) ((va_up (va_up i 0 S1) 4 S2) 2) ((va_up (va_up i 0 S1) 4 S2) 3) ((va_up (va_up i 0 S1) 4 S2) 4) ((va_up (va_up i 0 S1) 4 S2) 5) ((va_up (va_up i 0 S1) 4 S2) 6) ((va_up (va_up i 0 S1) 4 S2) 7) S1 rfl) kc_Model_thrown kv_Model_thrown tt_820 ⟨by decide, by decide⟩ rfl rfl hP hK [63] rfl 0 rfl rfl rfl rfl hl.1 (Nat.le_of_ble_eq_true rfl) rfl nd_Law_law_286 ⟨by show _ ≤ 601024; omega, by show _ ≤ 7293034; omega⟩ ?_
    refine lv_iload hx hb nd_Law_law_289 (lv_at hl 1 rfl) ?_
    refine lv_icmp_eq (tgt := 296) hx hb nd_Law_law_291 (by decide) (fun c1 => ?_) (fun c1 => ?_)
    rotate_left
    · exact absurd et c1
    refine lv_iload hx hb nd_Law_law_296 (lv_at hl 1 rfl) ?_
    refine lv_if_ne (tgt := 313) hx hb nd_Law_law_298 (by decide) (fun c2 => ?_) (fun c2 => ?_)
    · exact absurd rfl c2
    refine lv_aload_n hx hb nd_Law_law_301 rfl (lv_at hl 3 rfl) ?_
    refine lv_iconst (v := 0) hx hb nd_Law_law_302 (by decide) ?_
    refine va_lald hx hb hK hP 88 1 rfl rfl (by unfold vp_in; decide) nd_Law_law_303 ?_
    refine lv_iload hx hb nd_Law_law_304 (lv_at hl 0 rfl) ?_
    refine lv_i2l hx hb nd_Law_law_306 rfl ?_
    refine W.lcmp hx hb nd_Law_law_307 ?_
    refine lv_if_eq (tgt := 313) hx hb nd_Law_law_308 (by decide) (fun c3 => ?_) (fun c3 => ?_)
    rotate_left
    · exact absurd ea c3
    refine lv_goto (tgt := 1452) hx hb nd_Law_law_313 (by decide) ?_
    refine W.widen (k := 400 + n + 1) (n := 20000 + 6 * n + 6) (by omega) (by omega) ?_
    exact hnext _ _ _ _ _ _ _ _ _ _ _ hRel hP hD hS (lv_sub hl [2, 3, 4, 5, 6] rfl)
  ·
    refine lv_aload_n hx hb nd_Law_law_260 rfl (lv_at hl 3 rfl) ?_
    refine lv_aload_n hx hb nd_Law_law_261 rfl (lv_at hl 4 rfl) ?_
    refine lv_iload hx hb nd_Law_law_262 (lv_at hl 0 rfl) ?_
    refine lv_iconst (v := 1) hx hb nd_Law_law_264 (by decide) ?_
    refine lv_iadd hx hb nd_Law_law_265 ?_
    refine k_sld (n := n) (j := 1) hx hb hX hbl hbA hS (k_sidx rfl) (by omega) hL nd_Law_law_266 ?_
    refine lv_aload_n hx hb nd_Law_law_267 rfl (lv_at hl 1 rfl) ?_
    refine k_wSWX (wr := k_pick (wA qc qm qo ca I J A L i a l9 o) [2, 3, 4, 5, 6, 7, 8, 10, 11, 12, 13, 14, 15, 16, 17, 18, 19, 20, 21, 22, 23, 24, 25, 26, 27, 28, 29, 30, 31, 32, 33, 34, 35, 36, 37, 38, 39, 40, 41, 42, 43, 44, 45, 46, 47, 48, 49, 50, 51, 52, 53, 54, 55, 56, 57, 58, 59, 60, 61, 62, 63, 64, 65, 66, 67, 68, 69, 70, 71, 72, 73, 74, 75, 76, 77, 78, 79, 80, 81, 82, 83, 84, 85, 86, 87]) (w2 := wA qc qm qo ca I J A L i a l9 o) (As := [.ref (qc 0), .int (xs (n + 1)), .ref qo]) (rest := []) (r := 1) hx hb hml hown hts (hx_Law_goods_3 l hlt D ca (qc 0) (qc 1) (qc 19) (qc 34) (qc 47) (qc 48) (qc 58) (qc 2) (qc 5) (qc 9) (qc 13) (qc 10) qo (I 0) (I 4) (J 2) o (xs (n + 1)) e1 _) kc_Law_goods ks_Law_goods tt_381 ⟨by decide, by decide⟩ rfl rfl hP hK hD hS hA hev [0, 1, 9, 88] [2, 3, 4, 5, 6, 7, 8, 10, 11, 12, 13, 14, 15, 16, 17, 18, 19, 20, 21, 22, 23, 24, 25, 26, 27, 28, 29, 30, 31, 32, 33, 34, 35, 36, 37, 38, 39, 40, 41, 42, 43, 44, 45, 46, 47, 48, 49, 50, 51, 52, 53, 54, 55, 56, 57, 58, 59, 60, 61, 62, 63, 64, 65, 66, 67, 68, 69, 70, 71, 72, 73, 74, 75, 76, 77, 78, 79, 80, 81, 82, 83, 84, 85, 86, 87] [85, 86, 0, 1, 2, 3, 4, 5, 6, 87, 7, 8, 9, 10, 11, 12, 13, 14, 15, 16, 17, 18, 19, 20, 21, 22, 23, 24, 25, 26, 27, 28, 29, 30, 31, 32, 33, 34, 35, 36, 37, 38, 39, 40, 41, 42, 43, 44, 45, 46, 47, 48, 49, 50, 51, 52, 53, 54, 55, 56, 57, 58, 59, 60, 61, 62, 63, 64, 65, 66, 67, 68, 69, 70, 71, 72, 73, 74, 75, 76, 77, 78, 79, 80, 81, 82, 83, 84, 88] rfl (by decide) rfl (by decide) (by decide) rfl (by decide) rfl hl.1 (Nat.le_of_ble_eq_true rfl) rfl nd_Law_law_268 ⟨by show _ ≤ 601024; omega, by show _ ≤ 7293034; omega⟩ (fun H locs hP hD hS => ?_)
    refine W.widen (k := 400 + n + 1) (n := 20000 + 6 * n + 6) (by omega) (by omega) ?_
    refine lv_istore (lv' := [(5, .int 1), (4, .int (nI n)), (3, .ref qo), (2, .ref (qm 0)), (1, .ref (qc 0)), (0, .ref b)]) hx hb nd_Law_law_271 hl (by decide) rfl (fun ls hl => ?_)
    refine lv_aload_n hx hb nd_Law_law_273 rfl (lv_at hl 3 rfl) ?_
    refine lv_aload_n hx hb nd_Law_law_274 rfl (lv_at hl 5 rfl) ?_
    refine lv_iload hx hb nd_Law_law_275 (lv_at hl 1 rfl) ?_
    refine lv_iconst (v := 1) hx hb nd_Law_law_277 (by decide) ?_
    refine lv_iadd hx hb nd_Law_law_278 ?_
    refine k_sld (n := n) (j := 1) hx hb hX hbl hbA hS (k_sidx rfl) (by omega) hL nd_Law_law_279 ?_
    refine k_wVI (wr := k_pick (wA qc qm qo ca I J A L i a l9 o) [0, 1, 2, 3, 4, 5, 6, 7, 8, 9, 10, 11, 12, 13, 14, 15, 16, 17, 18, 19, 20, 21, 22, 23, 24, 25, 26, 27, 28, 29, 30, 31, 32, 33, 34, 35, 36, 37, 38, 39, 40, 41, 42, 43, 44, 45, 46, 47, 48, 49, 50, 51, 52, 53, 54, 55, 56, 57, 58, 59, 60, 61, 62, 64, 65, 66, 67, 68, 69, 70, 71, 72, 73, 74, 75, 76, 77, 78, 79, 80, 81, 82, 83, 84, 85, 86, 87, 88]) (w2 := wA qc qm qo ca I J A L (va_up (va_up i 0 S1) 4 S2) a l9 o) (As := [.int (xs (n + 1))]) (rest := []) (r := S0) hx hb hml hown hts (cn_Model_goods l D ca (qm 0) (qm 1) (qm 2) (qm 3) (qm 4) (qm 5) (qm 6) (qm 7) (qm 8) (qm 9) (qm 10) (qm 11) (qm 12) (qm 13) (qm 14) (qm 15) (qm 16) (qm 17) (qm 18) (qm 19) (qm 20) (qm 21) (qm 22) (qm 23) (qm 24) (i 0) (i 1) (i 2) (i 3) (i 4) (i 5) (i 6) (i 7) (xs (n + 1)) S0 S1 S2 e2 _) kc_Model_goods kv_Model_goods tt_840 ⟨by decide, by decide⟩ rfl rfl hP hK hD hS hA [63] [0, 1, 2, 3, 4, 5, 6, 7, 8, 9, 10, 11, 12, 13, 14, 15, 16, 17, 18, 19, 20, 21, 22, 23, 24, 25, 26, 27, 28, 29, 30, 31, 32, 33, 34, 35, 36, 37, 38, 39, 40, 41, 42, 43, 44, 45, 46, 47, 48, 49, 50, 51, 52, 53, 54, 55, 56, 57, 58, 59, 60, 61, 62, 64, 65, 66, 67, 68, 69, 70, 71, 72, 73, 74, 75, 76, 77, 78, 79, 80, 81, 82, 83, 84, 85, 86, 87, 88] [0, 1, 2, 3, 4, 5, 6, 7, 8, 9, 10, 11, 12, 13, 14, 15, 16, 17, 18, 19, 20, 21, 22, 23, 24, 25, 26, 27, 28, 29, 30, 31, 32, 33, 34, 35, 36, 37, 38, 39, 40, 41, 42, 43, 44, 45, 46, 47, 48, 49, 50, 51, 52, 53, 54, 55, 56, 57, 58, 59, 60, 61, 62, 88, 63, 64, 65, 66, 67, 68, 69, 70, 71, 72, 73, 74, 75, 76, 77, 78, 79, 80, 81, 82, 83, 84, 85, 86, 87] rfl (by decide) rfl (by decide) (by decide) rfl (by decide) 0 rfl rfl rfl rfl hl.1 (Nat.le_of_ble_eq_true rfl) rfl nd_Law_law_280 ⟨by show _ ≤ 601024; omega, by show _ ≤ 7293034; omega⟩ (fun H locs hP hD hS => ?_)
    refine lv_istore (lv' := [(6, .int S0), (5, .int 1), (4, .int (nI n)), (3, .ref qo), (2, .ref (qm 0)), (1, .ref (qc 0)), (0, .ref b)]) hx hb nd_Law_law_283 hl (by decide) rfl (fun ls hl => ?_)
    refine lv_aload_n hx hb nd_Law_law_285 rfl (lv_at hl 4 rfl) ?_
    refine k_rVI (As := []) (rest := []) (r := S1) hx hb hml hown hts (cn_Model_thrown l D ca (qm 0) (qm 1) (qm 2) (qm 3) (qm 4) (qm 5) (qm 6) (qm 7) (qm 8) (qm 9) (qm 10) (qm 11) (qm 12) (qm 13) (qm 14) (qm 15) (qm 16) (qm 17) (qm 18) (qm 19) (qm 20) (qm 21) (qm 22) (qm 23) (qm 24) ((va_up (va_up i 0 S1) 4 S2) 0) ((va_up (va_up i 0 S1) 4 S2) 1) ((va_up (va_up i 0 S1) 4 S2) 2) ((va_up (va_up i 0 S1) 4 S2) 3) ((va_up (va_up i 0 S1) 4 S2) 4) ((va_up (va_up i 0 S1) 4 S2) 5) ((va_up (va_up i 0 S1) 4 S2) 6) ((va_up (va_up i 0 S1) 4 S2) 7) S1 rfl) kc_Model_thrown kv_Model_thrown tt_820 ⟨by decide, by decide⟩ rfl rfl hP hK [63] rfl 0 rfl rfl rfl rfl hl.1 (Nat.le_of_ble_eq_true rfl) rfl nd_Law_law_286 ⟨by show _ ≤ 601024; omega, by show _ ≤ 7293034; omega⟩ ?_
    refine lv_iload hx hb nd_Law_law_289 (lv_at hl 1 rfl) ?_
    refine lv_icmp_eq (tgt := 296) hx hb nd_Law_law_291 (by decide) (fun c4 => ?_) (fun c4 => ?_)
    rotate_left
    · exact absurd et c4
    refine lv_iload hx hb nd_Law_law_296 (lv_at hl 1 rfl) ?_
    refine lv_if_ne (tgt := 313) hx hb nd_Law_law_298 (by decide) (fun c5 => ?_) (fun c5 => ?_)
    rotate_left
    · exact absurd c5 (by decide)
    refine lv_goto (tgt := 1452) hx hb nd_Law_law_313 (by decide) ?_
    refine W.widen (k := 400 + n + 1) (n := 20000 + 6 * n + 6) (by omega) (by omega) ?_
    exact hnext _ _ _ _ _ _ _ _ _ _ _ hRel hP hD hS (lv_sub hl [2, 3, 4, 5, 6] rfl)
set_option maxHeartbeats 8000000 in
set_option maxRecDepth 100000 in
theorem lc_row {p : Program} {l : Launch} {e : Env} {s : State} {m : MethodId} {below : List Frame} {meth : Method} {c : Code} {D : va_G} {ca : Nat → ClassId} {b Ls : Nat} {xs : Nat → Int32} (C0 : lw_At p s m meth c b Ls xs) (hL : Ls ≤ 2560) (hlt : l.stackTraces = false) (hev0 : xt_ev s s.heap) (hK : va_K D vwCl (tyG ca) s) {Rel : (Nat → Int32) → (Nat → Int64) → (Nat → Nat → Int32) → (Nat → Nat → Int64) → (Nat → Int32) → (Nat → Nat → Int32) → (Nat → Nat → Int64) → Prop} {qc qm : Nat → Nat} {qo : Nat} {I : Nat → Int32} {J : Nat → Int64} {A : Nat → Nat → Int32} {L : Nat → Nat → Int64} {i : Nat → Int32} {a : Nat → Nat → Int32} {l9 : Nat → Nat → Int64} {o : Nat → Int64} {n : Nat} (hn : n + 5 ≤ Ls) {H : Heap} {locs : List Loc} {ls : Array Slot} (hP : va_P D vwCl (wA qc qm qo ca I J A L i a l9 o) H) (hD : va_D (fun q : Nat => s.heap.size ≤ q) (wA qc qm qo ca I J A L i a l9 o)) (hS : va_S (fun q : Nat => s.heap.size ≤ q) s.heap H locs) (hl : lv_has ls 8 [(4, .int (nI n)), (3, .ref qo), (2, .ref (qm 0)), (1, .ref (qc 0)), (0, .ref b)]) (hst : st_row Rel I J A L i a l9 o (xs (n + 1)) (xs (n + 2))) (hnext : ∀ (I : Nat → Int32) (J : Nat → Int64) (A : Nat → Nat → Int32) (L : Nat → Nat → Int64) (i : Nat → Int32) (a : Nat → Nat → Int32) (l9 : Nat → Nat → Int64) (o : Nat → Int64) (H : Heap) (locs : List Loc) (ls : Array Slot), Rel I J A L i a l9 → va_P D vwCl (wA qc qm qo ca I J A L i a l9 o) H → va_D (fun q : Nat => s.heap.size ≤ q) (wA qc qm qo ca I J A L i a l9 o) → va_S (fun q : Nat => s.heap.size ≤ q) s.heap H locs → lv_has ls 8 [(4, .int (nI n)), (3, .ref qo), (2, .ref (qm 0)), (1, .ref (qc 0)), (0, .ref b)] → W p l e room_1 s m #[Value.ref b] below meth c H locs (400 + n + 1) (20000 + 6 * n + 6) (lw_Z below #[Value.ref b] s) (F0 m 1452 ls [])) : W p l e room_1 s m #[Value.ref b] below meth c H locs (400 + n) (20000 + 6 * n) (lw_Z below #[Value.ref b] s) (F0 m 316 ls []) := by
  obtain ⟨hx, hb, hr, hml, hown, hts0, hX, hbl, hlocks, hgv⟩ := C0
  have hts : ∀ w ∈ TT, w.before #[Value.ref b] s = true := fun w h => hts0 w (List.mem_filter.mp h).1
  have hA : ∀ q : Nat, s.heap.size ≤ q → (fun q : Nat => s.heap.size ≤ q) q := fun _ h => h
  have hbA : ¬ (fun q : Nat => s.heap.size ≤ q) b := Nat.not_le.mpr hbl
  have hown : s.vm.findClass nR_Law = some m.cls := hown
  have hev : xt_ev s H := k_evH hev0 hS
  unfold st_row at hst
  rcases hst with ⟨R1, R2, R3, R4, S0, S1, S2, S3, S4, e1, e2, et, ea, hRel⟩ | ⟨S0, S1, S2, S3, S4, e1, e2, et, hRel⟩ | ⟨S0, S1, S2, S3, S4, e1, e2, et, hRel⟩
  ·
    refine lv_aload_n hx hb nd_Law_law_316 rfl (lv_at hl 3 rfl) ?_
    refine lv_aload_n hx hb nd_Law_law_317 rfl (lv_at hl 4 rfl) ?_
    refine lv_iload hx hb nd_Law_law_318 (lv_at hl 0 rfl) ?_
    refine lv_iconst (v := 1) hx hb nd_Law_law_320 (by decide) ?_
    refine lv_iadd hx hb nd_Law_law_321 ?_
    refine k_sld (n := n) (j := 1) hx hb hX hbl hbA hS (k_sidx rfl) (by omega) hL nd_Law_law_322 ?_
    refine lv_aload_n hx hb nd_Law_law_323 rfl (lv_at hl 4 rfl) ?_
    refine lv_iload hx hb nd_Law_law_324 (lv_at hl 0 rfl) ?_
    refine lv_iconst (v := 2) hx hb nd_Law_law_326 (by decide) ?_
    refine lv_iadd hx hb nd_Law_law_327 ?_
    refine k_sld (n := n) (j := 2) hx hb hX hbl hbA hS (k_sidx rfl) (by omega) hL nd_Law_law_328 ?_
    refine lv_aload_n hx hb nd_Law_law_329 rfl (lv_at hl 1 rfl) ?_
    refine k_wSWI (wr := k_pick (wA qc qm qo ca I J A L i a l9 o) [2, 3, 4, 5, 6, 7, 8, 13, 14, 15, 16, 17, 18, 19, 20, 21, 22, 23, 24, 25, 26, 27, 28, 29, 30, 31, 32, 33, 34, 35, 36, 37, 38, 39, 40, 41, 42, 43, 44, 45, 46, 47, 48, 49, 50, 51, 52, 53, 54, 55, 56, 57, 58, 59, 60, 61, 62, 63, 64, 65, 66, 67, 68, 69, 70, 71, 72, 73, 74, 75, 76, 77, 78, 79, 80, 81, 82, 83, 84, 85, 86, 87]) (w2 := wA qc qm qo ca (va_up I 5 R3) J (va_up (va_up A 2 R1) 3 R2) L i a l9 R4) (As := [.ref (qc 0), .int (xs (n + 1)), .int (xs (n + 2)), .ref qo]) (rest := []) (r := 0) hx hb hml hown hts (cn_Law_row l D ca (qc 0) (qc 1) (qc 19) (qc 34) (qc 47) (qc 48) (qc 58) (qc 2) (qc 5) (qc 9) (qc 13) (qc 10) (qc 11) (qc 12) qo (I 0) (I 4) (J 2) (I 5) (A 2) (A 3) o (xs (n + 1)) (xs (n + 2)) (0 : Int32) R1 R2 R3 R4 e1 _) kc_Law_row ks_Law_row tt_388 ⟨by decide, by decide⟩ rfl rfl hP hK hD hS hA [0, 1, 9, 10, 11, 12, 88] [2, 3, 4, 5, 6, 7, 8, 13, 14, 15, 16, 17, 18, 19, 20, 21, 22, 23, 24, 25, 26, 27, 28, 29, 30, 31, 32, 33, 34, 35, 36, 37, 38, 39, 40, 41, 42, 43, 44, 45, 46, 47, 48, 49, 50, 51, 52, 53, 54, 55, 56, 57, 58, 59, 60, 61, 62, 63, 64, 65, 66, 67, 68, 69, 70, 71, 72, 73, 74, 75, 76, 77, 78, 79, 80, 81, 82, 83, 84, 85, 86, 87] [82, 83, 0, 1, 2, 3, 4, 5, 6, 84, 85, 86, 87, 7, 8, 9, 10, 11, 12, 13, 14, 15, 16, 17, 18, 19, 20, 21, 22, 23, 24, 25, 26, 27, 28, 29, 30, 31, 32, 33, 34, 35, 36, 37, 38, 39, 40, 41, 42, 43, 44, 45, 46, 47, 48, 49, 50, 51, 52, 53, 54, 55, 56, 57, 58, 59, 60, 61, 62, 63, 64, 65, 66, 67, 68, 69, 70, 71, 72, 73, 74, 75, 76, 77, 78, 79, 80, 81, 88] rfl (by decide) rfl (by decide) (by decide) rfl (by decide) rfl hl.1 (Nat.le_of_ble_eq_true rfl) rfl nd_Law_law_330 ⟨by show _ ≤ 601024; omega, by show _ ≤ 7293034; omega⟩ (fun H locs hP hD hS => ?_)
    refine W.widen (k := 400 + n) (n := 20000 + 6 * n) (by omega) (by omega) ?_
    refine lv_istore (lv' := [(5, .int 0), (4, .int (nI n)), (3, .ref qo), (2, .ref (qm 0)), (1, .ref (qc 0)), (0, .ref b)]) hx hb nd_Law_law_333 hl (by decide) rfl (fun ls hl => ?_)
    refine lv_aload_n hx hb nd_Law_law_335 rfl (lv_at hl 3 rfl) ?_
    refine lv_aload_n hx hb nd_Law_law_336 rfl (lv_at hl 5 rfl) ?_
    refine lv_iload hx hb nd_Law_law_337 (lv_at hl 1 rfl) ?_
    refine lv_iconst (v := 1) hx hb nd_Law_law_339 (by decide) ?_
    refine lv_iadd hx hb nd_Law_law_340 ?_
    refine k_sld (n := n) (j := 1) hx hb hX hbl hbA hS (k_sidx rfl) (by omega) hL nd_Law_law_341 ?_
    refine lv_aload_n hx hb nd_Law_law_342 rfl (lv_at hl 5 rfl) ?_
    refine lv_iload hx hb nd_Law_law_343 (lv_at hl 1 rfl) ?_
    refine lv_iconst (v := 2) hx hb nd_Law_law_345 (by decide) ?_
    refine lv_iadd hx hb nd_Law_law_346 ?_
    refine k_sld (n := n) (j := 2) hx hb hX hbl hbA hS (k_sidx rfl) (by omega) hL nd_Law_law_347 ?_
    refine k_wVI (wr := k_pick (wA qc qm qo ca (va_up I 5 R3) J (va_up (va_up A 2 R1) 3 R2) L i a l9 R4) [0, 1, 2, 3, 4, 5, 6, 7, 8, 9, 10, 11, 12, 13, 14, 15, 16, 17, 18, 19, 20, 21, 22, 23, 24, 25, 26, 27, 28, 29, 30, 31, 32, 33, 34, 35, 36, 37, 38, 39, 40, 41, 42, 43, 44, 45, 46, 47, 48, 49, 50, 51, 52, 53, 54, 55, 56, 57, 58, 59, 60, 61, 62, 64, 65, 66, 67, 68, 69, 72, 73, 74, 75, 76, 77, 78, 79, 80, 81, 82, 83, 84, 85, 86, 87, 88]) (w2 := wA qc qm qo ca (va_up I 5 R3) J (va_up (va_up A 2 R1) 3 R2) L (va_up (va_up i 0 S1) 5 S4) (va_up (va_up a 2 S2) 3 S3) l9 R4) (As := [.int (xs (n + 1)), .int (xs (n + 2))]) (rest := []) (r := S0) hx hb hml hown hts (cn_Model_row l D ca (qm 0) (qm 1) (qm 2) (qm 3) (qm 4) (qm 5) (qm 6) (qm 7) (qm 8) (qm 9) (qm 10) (qm 11) (qm 12) (qm 13) (qm 14) (qm 15) (qm 16) (qm 17) (qm 18) (qm 19) (qm 20) (qm 21) (qm 22) (qm 23) (qm 24) (i 0) (i 1) (i 2) (i 3) (i 4) (i 5) (i 6) (i 7) (a 2) (a 3) (xs (n + 1)) (xs (n + 2)) S0 S1 S2 S3 S4 e2 _) kc_Model_row kv_Model_row tt_844 ⟨by decide, by decide⟩ rfl rfl hP hK hD hS hA [63, 70, 71] [0, 1, 2, 3, 4, 5, 6, 7, 8, 9, 10, 11, 12, 13, 14, 15, 16, 17, 18, 19, 20, 21, 22, 23, 24, 25, 26, 27, 28, 29, 30, 31, 32, 33, 34, 35, 36, 37, 38, 39, 40, 41, 42, 43, 44, 45, 46, 47, 48, 49, 50, 51, 52, 53, 54, 55, 56, 57, 58, 59, 60, 61, 62, 64, 65, 66, 67, 68, 69, 72, 73, 74, 75, 76, 77, 78, 79, 80, 81, 82, 83, 84, 85, 86, 87, 88] [0, 1, 2, 3, 4, 5, 6, 7, 8, 9, 10, 11, 12, 13, 14, 15, 16, 17, 18, 19, 20, 21, 22, 23, 24, 25, 26, 27, 28, 29, 30, 31, 32, 33, 34, 35, 36, 37, 38, 39, 40, 41, 42, 43, 44, 45, 46, 47, 48, 49, 50, 51, 52, 53, 54, 55, 56, 57, 58, 59, 60, 61, 62, 86, 63, 64, 65, 66, 67, 68, 87, 88, 69, 70, 71, 72, 73, 74, 75, 76, 77, 78, 79, 80, 81, 82, 83, 84, 85] rfl (by decide) rfl (by decide) (by decide) rfl (by decide) 0 rfl rfl rfl rfl hl.1 (Nat.le_of_ble_eq_true rfl) rfl nd_Law_law_348 ⟨by show _ ≤ 601024; omega, by show _ ≤ 7293034; omega⟩ (fun H locs hP hD hS => ?_)
    refine lv_istore (lv' := [(6, .int S0), (5, .int 0), (4, .int (nI n)), (3, .ref qo), (2, .ref (qm 0)), (1, .ref (qc 0)), (0, .ref b)]) hx hb nd_Law_law_351 hl (by decide) rfl (fun ls hl => ?_)
    refine lv_aload_n hx hb nd_Law_law_353 rfl (lv_at hl 4 rfl) ?_
    refine k_rVI (As := []) (rest := []) (r := S1) hx hb hml hown hts (cn_Model_thrown l D ca (qm 0) (qm 1) (qm 2) (qm 3) (qm 4) (qm 5) (qm 6) (qm 7) (qm 8) (qm 9) (qm 10) (qm 11) (qm 12) (qm 13) (qm 14) (qm 15) (qm 16) (qm 17) (qm 18) (qm 19) (qm 20) (qm 21) (qm 22) (qm 23) (qm 24) ((va_up (va_up i 0 S1) 5 S4) 0) ((va_up (va_up i 0 S1) 5 S4) 1) ((va_up (va_up i 0 S1) 5 S4) 2) ((va_up (va_up i 0 S1) 5 S4) 3) ((va_up (va_up i 0 S1) 5 S4) 4) ((va_up (va_up i 0 S1) 5 S4) 5) ((va_up (va_up i 0 S1) 5 S4) 6) ((va_up (va_up i 0 S1) 5 S4) 7) S1 rfl) kc_Model_thrown kv_Model_thrown tt_820 ⟨by decide, by decide⟩ rfl rfl hP hK [63] rfl 0 rfl rfl rfl rfl hl.1 (Nat.le_of_ble_eq_true rfl) rfl nd_Law_law_354 ⟨by show _ ≤ 601024; omega, by show _ ≤ 7293034; omega⟩ ?_
    refine lv_iload hx hb nd_Law_law_357 (lv_at hl 1 rfl) ?_
    refine lv_icmp_eq (tgt := 364) hx hb nd_Law_law_359 (by decide) (fun c1 => ?_) (fun c1 => ?_)
    rotate_left
    · exact absurd et c1
    refine lv_iload hx hb nd_Law_law_364 (lv_at hl 1 rfl) ?_
    refine lv_if_ne (tgt := 381) hx hb nd_Law_law_366 (by decide) (fun c2 => ?_) (fun c2 => ?_)
    · exact absurd rfl c2
    refine lv_aload_n hx hb nd_Law_law_369 rfl (lv_at hl 3 rfl) ?_
    refine lv_iconst (v := 0) hx hb nd_Law_law_370 (by decide) ?_
    refine va_lald hx hb hK hP 88 1 rfl rfl (by unfold vp_in; decide) nd_Law_law_371 ?_
    refine lv_iload hx hb nd_Law_law_372 (lv_at hl 0 rfl) ?_
    refine lv_i2l hx hb nd_Law_law_374 rfl ?_
    refine W.lcmp hx hb nd_Law_law_375 ?_
    refine lv_if_eq (tgt := 381) hx hb nd_Law_law_376 (by decide) (fun c3 => ?_) (fun c3 => ?_)
    rotate_left
    · exact absurd ea c3
    refine lv_goto (tgt := 1452) hx hb nd_Law_law_381 (by decide) ?_
    refine W.widen (k := 400 + n + 1) (n := 20000 + 6 * n + 6) (by omega) (by omega) ?_
    exact hnext _ _ _ _ _ _ _ _ _ _ _ hRel hP hD hS (lv_sub hl [2, 3, 4, 5, 6] rfl)
  ·
    refine lv_aload_n hx hb nd_Law_law_316 rfl (lv_at hl 3 rfl) ?_
    refine lv_aload_n hx hb nd_Law_law_317 rfl (lv_at hl 4 rfl) ?_
    refine lv_iload hx hb nd_Law_law_318 (lv_at hl 0 rfl) ?_
    refine lv_iconst (v := 1) hx hb nd_Law_law_320 (by decide) ?_
    refine lv_iadd hx hb nd_Law_law_321 ?_
    refine k_sld (n := n) (j := 1) hx hb hX hbl hbA hS (k_sidx rfl) (by omega) hL nd_Law_law_322 ?_
    refine lv_aload_n hx hb nd_Law_law_323 rfl (lv_at hl 4 rfl) ?_
    refine lv_iload hx hb nd_Law_law_324 (lv_at hl 0 rfl) ?_
    refine lv_iconst (v := 2) hx hb nd_Law_law_326 (by decide) ?_
    refine lv_iadd hx hb nd_Law_law_327 ?_
    refine k_sld (n := n) (j := 2) hx hb hX hbl hbA hS (k_sidx rfl) (by omega) hL nd_Law_law_328 ?_
    refine lv_aload_n hx hb nd_Law_law_329 rfl (lv_at hl 1 rfl) ?_
    refine k_wSWX (wr := k_pick (wA qc qm qo ca I J A L i a l9 o) [2, 3, 4, 5, 6, 7, 8, 13, 14, 15, 16, 17, 18, 19, 20, 21, 22, 23, 24, 25, 26, 27, 28, 29, 30, 31, 32, 33, 34, 35, 36, 37, 38, 39, 40, 41, 42, 43, 44, 45, 46, 47, 48, 49, 50, 51, 52, 53, 54, 55, 56, 57, 58, 59, 60, 61, 62, 63, 64, 65, 66, 67, 68, 69, 70, 71, 72, 73, 74, 75, 76, 77, 78, 79, 80, 81, 82, 83, 84, 85, 86, 87]) (w2 := wA qc qm qo ca I J A L i a l9 o) (As := [.ref (qc 0), .int (xs (n + 1)), .int (xs (n + 2)), .ref qo]) (rest := []) (r := 1) hx hb hml hown hts (hx_Law_row_2 l hlt D ca (qc 0) (qc 1) (qc 19) (qc 34) (qc 47) (qc 48) (qc 58) (qc 2) (qc 5) (qc 9) (qc 13) (qc 10) (qc 11) (qc 12) qo (I 0) (I 4) (J 2) (I 5) (A 2) (A 3) o (xs (n + 1)) (xs (n + 2)) e1 _) kc_Law_row ks_Law_row tt_388 ⟨by decide, by decide⟩ rfl rfl hP hK hD hS hA hev [0, 1, 9, 10, 11, 12, 88] [2, 3, 4, 5, 6, 7, 8, 13, 14, 15, 16, 17, 18, 19, 20, 21, 22, 23, 24, 25, 26, 27, 28, 29, 30, 31, 32, 33, 34, 35, 36, 37, 38, 39, 40, 41, 42, 43, 44, 45, 46, 47, 48, 49, 50, 51, 52, 53, 54, 55, 56, 57, 58, 59, 60, 61, 62, 63, 64, 65, 66, 67, 68, 69, 70, 71, 72, 73, 74, 75, 76, 77, 78, 79, 80, 81, 82, 83, 84, 85, 86, 87] [82, 83, 0, 1, 2, 3, 4, 5, 6, 84, 85, 86, 87, 7, 8, 9, 10, 11, 12, 13, 14, 15, 16, 17, 18, 19, 20, 21, 22, 23, 24, 25, 26, 27, 28, 29, 30, 31, 32, 33, 34, 35, 36, 37, 38, 39, 40, 41, 42, 43, 44, 45, 46, 47, 48, 49, 50, 51, 52, 53, 54, 55, 56, 57, 58, 59, 60, 61, 62, 63, 64, 65, 66, 67, 68, 69, 70, 71, 72, 73, 74, 75, 76, 77, 78, 79, 80, 81, 88] rfl (by decide) rfl (by decide) (by decide) rfl (by decide) rfl hl.1 (Nat.le_of_ble_eq_true rfl) rfl nd_Law_law_330 ⟨by show _ ≤ 601024; omega, by show _ ≤ 7293034; omega⟩ (fun H locs hP hD hS => ?_)
    refine W.widen (k := 400 + n + 1) (n := 20000 + 6 * n + 6) (by omega) (by omega) ?_
    refine lv_istore (lv' := [(5, .int 1), (4, .int (nI n)), (3, .ref qo), (2, .ref (qm 0)), (1, .ref (qc 0)), (0, .ref b)]) hx hb nd_Law_law_333 hl (by decide) rfl (fun ls hl => ?_)
    refine lv_aload_n hx hb nd_Law_law_335 rfl (lv_at hl 3 rfl) ?_
    refine lv_aload_n hx hb nd_Law_law_336 rfl (lv_at hl 5 rfl) ?_
    refine lv_iload hx hb nd_Law_law_337 (lv_at hl 1 rfl) ?_
    refine lv_iconst (v := 1) hx hb nd_Law_law_339 (by decide) ?_
    refine lv_iadd hx hb nd_Law_law_340 ?_
    refine k_sld (n := n) (j := 1) hx hb hX hbl hbA hS (k_sidx rfl) (by omega) hL nd_Law_law_341 ?_
    refine lv_aload_n hx hb nd_Law_law_342 rfl (lv_at hl 5 rfl) ?_
    refine lv_iload hx hb nd_Law_law_343 (lv_at hl 1 rfl) ?_
    refine lv_iconst (v := 2) hx hb nd_Law_law_345 (by decide) ?_
    refine lv_iadd hx hb nd_Law_law_346 ?_
    refine k_sld (n := n) (j := 2) hx hb hX hbl hbA hS (k_sidx rfl) (by omega) hL nd_Law_law_347 ?_
    refine k_wVI (wr := k_pick (wA qc qm qo ca I J A L i a l9 o) [0, 1, 2, 3, 4, 5, 6, 7, 8, 9, 10, 11, 12, 13, 14, 15, 16, 17, 18, 19, 20, 21, 22, 23, 24, 25, 26, 27, 28, 29, 30, 31, 32, 33, 34, 35, 36, 37, 38, 39, 40, 41, 42, 43, 44, 45, 46, 47, 48, 49, 50, 51, 52, 53, 54, 55, 56, 57, 58, 59, 60, 61, 62, 64, 65, 66, 67, 68, 69, 72, 73, 74, 75, 76, 77, 78, 79, 80, 81, 82, 83, 84, 85, 86, 87, 88]) (w2 := wA qc qm qo ca I J A L (va_up (va_up i 0 S1) 5 S4) (va_up (va_up a 2 S2) 3 S3) l9 o) (As := [.int (xs (n + 1)), .int (xs (n + 2))]) (rest := []) (r := S0) hx hb hml hown hts (cn_Model_row l D ca (qm 0) (qm 1) (qm 2) (qm 3) (qm 4) (qm 5) (qm 6) (qm 7) (qm 8) (qm 9) (qm 10) (qm 11) (qm 12) (qm 13) (qm 14) (qm 15) (qm 16) (qm 17) (qm 18) (qm 19) (qm 20) (qm 21) (qm 22) (qm 23) (qm 24) (i 0) (i 1) (i 2) (i 3) (i 4) (i 5) (i 6) (i 7) (a 2) (a 3) (xs (n + 1)) (xs (n + 2)) S0 S1 S2 S3 S4 e2 _) kc_Model_row kv_Model_row tt_844 ⟨by decide, by decide⟩ rfl rfl hP hK hD hS hA [63, 70, 71] [0, 1, 2, 3, 4, 5, 6, 7, 8, 9, 10, 11, 12, 13, 14, 15, 16, 17, 18, 19, 20, 21, 22, 23, 24, 25, 26, 27, 28, 29, 30, 31, 32, 33, 34, 35, 36, 37, 38, 39, 40, 41, 42, 43, 44, 45, 46, 47, 48, 49, 50, 51, 52, 53, 54, 55, 56, 57, 58, 59, 60, 61, 62, 64, 65, 66, 67, 68, 69, 72, 73, 74, 75, 76, 77, 78, 79, 80, 81, 82, 83, 84, 85, 86, 87, 88] [0, 1, 2, 3, 4, 5, 6, 7, 8, 9, 10, 11, 12, 13, 14, 15, 16, 17, 18, 19, 20, 21, 22, 23, 24, 25, 26, 27, 28, 29, 30, 31, 32, 33, 34, 35, 36, 37, 38, 39, 40, 41, 42, 43, 44, 45, 46, 47, 48, 49, 50, 51, 52, 53, 54, 55, 56, 57, 58, 59, 60, 61, 62, 86, 63, 64, 65, 66, 67, 68, 87, 88, 69, 70, 71, 72, 73, 74, 75, 76, 77, 78, 79, 80, 81, 82, 83, 84, 85] rfl (by decide) rfl (by decide) (by decide) rfl (by decide) 0 rfl rfl rfl rfl hl.1 (Nat.le_of_ble_eq_true rfl) rfl nd_Law_law_348 ⟨by show _ ≤ 601024; omega, by show _ ≤ 7293034; omega⟩ (fun H locs hP hD hS => ?_)
    refine lv_istore (lv' := [(6, .int S0), (5, .int 1), (4, .int (nI n)), (3, .ref qo), (2, .ref (qm 0)), (1, .ref (qc 0)), (0, .ref b)]) hx hb nd_Law_law_351 hl (by decide) rfl (fun ls hl => ?_)
    refine lv_aload_n hx hb nd_Law_law_353 rfl (lv_at hl 4 rfl) ?_
    refine k_rVI (As := []) (rest := []) (r := S1) hx hb hml hown hts (cn_Model_thrown l D ca (qm 0) (qm 1) (qm 2) (qm 3) (qm 4) (qm 5) (qm 6) (qm 7) (qm 8) (qm 9) (qm 10) (qm 11) (qm 12) (qm 13) (qm 14) (qm 15) (qm 16) (qm 17) (qm 18) (qm 19) (qm 20) (qm 21) (qm 22) (qm 23) (qm 24) ((va_up (va_up i 0 S1) 5 S4) 0) ((va_up (va_up i 0 S1) 5 S4) 1) ((va_up (va_up i 0 S1) 5 S4) 2) ((va_up (va_up i 0 S1) 5 S4) 3) ((va_up (va_up i 0 S1) 5 S4) 4) ((va_up (va_up i 0 S1) 5 S4) 5) ((va_up (va_up i 0 S1) 5 S4) 6) ((va_up (va_up i 0 S1) 5 S4) 7) S1 rfl) kc_Model_thrown kv_Model_thrown tt_820 ⟨by decide, by decide⟩ rfl rfl hP hK [63] rfl 0 rfl rfl rfl rfl hl.1 (Nat.le_of_ble_eq_true rfl) rfl nd_Law_law_354 ⟨by show _ ≤ 601024; omega, by show _ ≤ 7293034; omega⟩ ?_
    refine lv_iload hx hb nd_Law_law_357 (lv_at hl 1 rfl) ?_
    refine lv_icmp_eq (tgt := 364) hx hb nd_Law_law_359 (by decide) (fun c4 => ?_) (fun c4 => ?_)
    rotate_left
    · exact absurd et c4
    refine lv_iload hx hb nd_Law_law_364 (lv_at hl 1 rfl) ?_
    refine lv_if_ne (tgt := 381) hx hb nd_Law_law_366 (by decide) (fun c5 => ?_) (fun c5 => ?_)
    rotate_left
    · exact absurd c5 (by decide)
    refine lv_goto (tgt := 1452) hx hb nd_Law_law_381 (by decide) ?_
    refine W.widen (k := 400 + n + 1) (n := 20000 + 6 * n + 6) (by omega) (by omega) ?_
    exact hnext _ _ _ _ _ _ _ _ _ _ _ hRel hP hD hS (lv_sub hl [2, 3, 4, 5, 6] rfl)
  ·
    refine lv_aload_n hx hb nd_Law_law_316 rfl (lv_at hl 3 rfl) ?_
    refine lv_aload_n hx hb nd_Law_law_317 rfl (lv_at hl 4 rfl) ?_
    refine lv_iload hx hb nd_Law_law_318 (lv_at hl 0 rfl) ?_
    refine lv_iconst (v := 1) hx hb nd_Law_law_320 (by decide) ?_
    refine lv_iadd hx hb nd_Law_law_321 ?_
    refine k_sld (n := n) (j := 1) hx hb hX hbl hbA hS (k_sidx rfl) (by omega) hL nd_Law_law_322 ?_
    refine lv_aload_n hx hb nd_Law_law_323 rfl (lv_at hl 4 rfl) ?_
    refine lv_iload hx hb nd_Law_law_324 (lv_at hl 0 rfl) ?_
    refine lv_iconst (v := 2) hx hb nd_Law_law_326 (by decide) ?_
    refine lv_iadd hx hb nd_Law_law_327 ?_
    refine k_sld (n := n) (j := 2) hx hb hX hbl hbA hS (k_sidx rfl) (by omega) hL nd_Law_law_328 ?_
    refine lv_aload_n hx hb nd_Law_law_329 rfl (lv_at hl 1 rfl) ?_
    refine k_wSWX (wr := k_pick (wA qc qm qo ca I J A L i a l9 o) [2, 3, 4, 5, 6, 7, 8, 13, 14, 15, 16, 17, 18, 19, 20, 21, 22, 23, 24, 25, 26, 27, 28, 29, 30, 31, 32, 33, 34, 35, 36, 37, 38, 39, 40, 41, 42, 43, 44, 45, 46, 47, 48, 49, 50, 51, 52, 53, 54, 55, 56, 57, 58, 59, 60, 61, 62, 63, 64, 65, 66, 67, 68, 69, 70, 71, 72, 73, 74, 75, 76, 77, 78, 79, 80, 81, 82, 83, 84, 85, 86, 87]) (w2 := wA qc qm qo ca I J A L i a l9 o) (As := [.ref (qc 0), .int (xs (n + 1)), .int (xs (n + 2)), .ref qo]) (rest := []) (r := 2) hx hb hml hown hts (hx_Law_row_3 l hlt D ca (qc 0) (qc 1) (qc 19) (qc 34) (qc 47) (qc 48) (qc 58) (qc 2) (qc 5) (qc 9) (qc 13) (qc 10) (qc 11) (qc 12) qo (I 0) (I 4) (J 2) (I 5) (A 2) (A 3) o (xs (n + 1)) (xs (n + 2)) e1 _) kc_Law_row ks_Law_row tt_388 ⟨by decide, by decide⟩ rfl rfl hP hK hD hS hA hev [0, 1, 9, 10, 11, 12, 88] [2, 3, 4, 5, 6, 7, 8, 13, 14, 15, 16, 17, 18, 19, 20, 21, 22, 23, 24, 25, 26, 27, 28, 29, 30, 31, 32, 33, 34, 35, 36, 37, 38, 39, 40, 41, 42, 43, 44, 45, 46, 47, 48, 49, 50, 51, 52, 53, 54, 55, 56, 57, 58, 59, 60, 61, 62, 63, 64, 65, 66, 67, 68, 69, 70, 71, 72, 73, 74, 75, 76, 77, 78, 79, 80, 81, 82, 83, 84, 85, 86, 87] [82, 83, 0, 1, 2, 3, 4, 5, 6, 84, 85, 86, 87, 7, 8, 9, 10, 11, 12, 13, 14, 15, 16, 17, 18, 19, 20, 21, 22, 23, 24, 25, 26, 27, 28, 29, 30, 31, 32, 33, 34, 35, 36, 37, 38, 39, 40, 41, 42, 43, 44, 45, 46, 47, 48, 49, 50, 51, 52, 53, 54, 55, 56, 57, 58, 59, 60, 61, 62, 63, 64, 65, 66, 67, 68, 69, 70, 71, 72, 73, 74, 75, 76, 77, 78, 79, 80, 81, 88] rfl (by decide) rfl (by decide) (by decide) rfl (by decide) rfl hl.1 (Nat.le_of_ble_eq_true rfl) rfl nd_Law_law_330 ⟨by show _ ≤ 601024; omega, by show _ ≤ 7293034; omega⟩ (fun H locs hP hD hS => ?_)
    refine W.widen (k := 400 + n + 1) (n := 20000 + 6 * n + 6) (by omega) (by omega) ?_
    refine lv_istore (lv' := [(5, .int 2), (4, .int (nI n)), (3, .ref qo), (2, .ref (qm 0)), (1, .ref (qc 0)), (0, .ref b)]) hx hb nd_Law_law_333 hl (by decide) rfl (fun ls hl => ?_)
    refine lv_aload_n hx hb nd_Law_law_335 rfl (lv_at hl 3 rfl) ?_
    refine lv_aload_n hx hb nd_Law_law_336 rfl (lv_at hl 5 rfl) ?_
    refine lv_iload hx hb nd_Law_law_337 (lv_at hl 1 rfl) ?_
    refine lv_iconst (v := 1) hx hb nd_Law_law_339 (by decide) ?_
    refine lv_iadd hx hb nd_Law_law_340 ?_
    refine k_sld (n := n) (j := 1) hx hb hX hbl hbA hS (k_sidx rfl) (by omega) hL nd_Law_law_341 ?_
    refine lv_aload_n hx hb nd_Law_law_342 rfl (lv_at hl 5 rfl) ?_
    refine lv_iload hx hb nd_Law_law_343 (lv_at hl 1 rfl) ?_
    refine lv_iconst (v := 2) hx hb nd_Law_law_345 (by decide) ?_
    refine lv_iadd hx hb nd_Law_law_346 ?_
    refine k_sld (n := n) (j := 2) hx hb hX hbl hbA hS (k_sidx rfl) (by omega) hL nd_Law_law_347 ?_
    refine k_wVI (wr := k_pick (wA qc qm qo ca I J A L i a l9 o) [0, 1, 2, 3, 4, 5, 6, 7, 8, 9, 10, 11, 12, 13, 14, 15, 16, 17, 18, 19, 20, 21, 22, 23, 24, 25, 26, 27, 28, 29, 30, 31, 32, 33, 34, 35, 36, 37, 38, 39, 40, 41, 42, 43, 44, 45, 46, 47, 48, 49, 50, 51, 52, 53, 54, 55, 56, 57, 58, 59, 60, 61, 62, 64, 65, 66, 67, 68, 69, 72, 73, 74, 75, 76, 77, 78, 79, 80, 81, 82, 83, 84, 85, 86, 87, 88]) (w2 := wA qc qm qo ca I J A L (va_up (va_up i 0 S1) 5 S4) (va_up (va_up a 2 S2) 3 S3) l9 o) (As := [.int (xs (n + 1)), .int (xs (n + 2))]) (rest := []) (r := S0) hx hb hml hown hts (cn_Model_row l D ca (qm 0) (qm 1) (qm 2) (qm 3) (qm 4) (qm 5) (qm 6) (qm 7) (qm 8) (qm 9) (qm 10) (qm 11) (qm 12) (qm 13) (qm 14) (qm 15) (qm 16) (qm 17) (qm 18) (qm 19) (qm 20) (qm 21) (qm 22) (qm 23) (qm 24) (i 0) (i 1) (i 2) (i 3) (i 4) (i 5) (i 6) (i 7) (a 2) (a 3) (xs (n + 1)) (xs (n + 2)) S0 S1 S2 S3 S4 e2 _) kc_Model_row kv_Model_row tt_844 ⟨by decide, by decide⟩ rfl rfl hP hK hD hS hA [63, 70, 71] [0, 1, 2, 3, 4, 5, 6, 7, 8, 9, 10, 11, 12, 13, 14, 15, 16, 17, 18, 19, 20, 21, 22, 23, 24, 25, 26, 27, 28, 29, 30, 31, 32, 33, 34, 35, 36, 37, 38, 39, 40, 41, 42, 43, 44, 45, 46, 47, 48, 49, 50, 51, 52, 53, 54, 55, 56, 57, 58, 59, 60, 61, 62, 64, 65, 66, 67, 68, 69, 72, 73, 74, 75, 76, 77, 78, 79, 80, 81, 82, 83, 84, 85, 86, 87, 88] [0, 1, 2, 3, 4, 5, 6, 7, 8, 9, 10, 11, 12, 13, 14, 15, 16, 17, 18, 19, 20, 21, 22, 23, 24, 25, 26, 27, 28, 29, 30, 31, 32, 33, 34, 35, 36, 37, 38, 39, 40, 41, 42, 43, 44, 45, 46, 47, 48, 49, 50, 51, 52, 53, 54, 55, 56, 57, 58, 59, 60, 61, 62, 86, 63, 64, 65, 66, 67, 68, 87, 88, 69, 70, 71, 72, 73, 74, 75, 76, 77, 78, 79, 80, 81, 82, 83, 84, 85] rfl (by decide) rfl (by decide) (by decide) rfl (by decide) 0 rfl rfl rfl rfl hl.1 (Nat.le_of_ble_eq_true rfl) rfl nd_Law_law_348 ⟨by show _ ≤ 601024; omega, by show _ ≤ 7293034; omega⟩ (fun H locs hP hD hS => ?_)
    refine lv_istore (lv' := [(6, .int S0), (5, .int 2), (4, .int (nI n)), (3, .ref qo), (2, .ref (qm 0)), (1, .ref (qc 0)), (0, .ref b)]) hx hb nd_Law_law_351 hl (by decide) rfl (fun ls hl => ?_)
    refine lv_aload_n hx hb nd_Law_law_353 rfl (lv_at hl 4 rfl) ?_
    refine k_rVI (As := []) (rest := []) (r := S1) hx hb hml hown hts (cn_Model_thrown l D ca (qm 0) (qm 1) (qm 2) (qm 3) (qm 4) (qm 5) (qm 6) (qm 7) (qm 8) (qm 9) (qm 10) (qm 11) (qm 12) (qm 13) (qm 14) (qm 15) (qm 16) (qm 17) (qm 18) (qm 19) (qm 20) (qm 21) (qm 22) (qm 23) (qm 24) ((va_up (va_up i 0 S1) 5 S4) 0) ((va_up (va_up i 0 S1) 5 S4) 1) ((va_up (va_up i 0 S1) 5 S4) 2) ((va_up (va_up i 0 S1) 5 S4) 3) ((va_up (va_up i 0 S1) 5 S4) 4) ((va_up (va_up i 0 S1) 5 S4) 5) ((va_up (va_up i 0 S1) 5 S4) 6) ((va_up (va_up i 0 S1) 5 S4) 7) S1 rfl) kc_Model_thrown kv_Model_thrown tt_820 ⟨by decide, by decide⟩ rfl rfl hP hK [63] rfl 0 rfl rfl rfl rfl hl.1 (Nat.le_of_ble_eq_true rfl) rfl nd_Law_law_354 ⟨by show _ ≤ 601024; omega, by show _ ≤ 7293034; omega⟩ ?_
    refine lv_iload hx hb nd_Law_law_357 (lv_at hl 1 rfl) ?_
    refine lv_icmp_eq (tgt := 364) hx hb nd_Law_law_359 (by decide) (fun c6 => ?_) (fun c6 => ?_)
    rotate_left
    · exact absurd et c6
    refine lv_iload hx hb nd_Law_law_364 (lv_at hl 1 rfl) ?_
    refine lv_if_ne (tgt := 381) hx hb nd_Law_law_366 (by decide) (fun c7 => ?_) (fun c7 => ?_)
    rotate_left
    · exact absurd c7 (by decide)
    refine lv_goto (tgt := 1452) hx hb nd_Law_law_381 (by decide) ?_
    refine W.widen (k := 400 + n + 1) (n := 20000 + 6 * n + 6) (by omega) (by omega) ?_
    exact hnext _ _ _ _ _ _ _ _ _ _ _ hRel hP hD hS (lv_sub hl [2, 3, 4, 5, 6] rfl)
set_option maxHeartbeats 8000000 in
set_option maxRecDepth 100000 in
theorem lc_machine {p : Program} {l : Launch} {e : Env} {s : State} {m : MethodId} {below : List Frame} {meth : Method} {c : Code} {D : va_G} {ca : Nat → ClassId} {b Ls : Nat} {xs : Nat → Int32} (C0 : lw_At p s m meth c b Ls xs) (hL : Ls ≤ 2560) (hlt : l.stackTraces = false) (hev0 : xt_ev s s.heap) (hK : va_K D vwCl (tyG ca) s) {Rel : (Nat → Int32) → (Nat → Int64) → (Nat → Nat → Int32) → (Nat → Nat → Int64) → (Nat → Int32) → (Nat → Nat → Int32) → (Nat → Nat → Int64) → Prop} {qc qm : Nat → Nat} {qo : Nat} {I : Nat → Int32} {J : Nat → Int64} {A : Nat → Nat → Int32} {L : Nat → Nat → Int64} {i : Nat → Int32} {a : Nat → Nat → Int32} {l9 : Nat → Nat → Int64} {o : Nat → Int64} {n : Nat} (hn : n + 5 ≤ Ls) {H : Heap} {locs : List Loc} {ls : Array Slot} (hP : va_P D vwCl (wA qc qm qo ca I J A L i a l9 o) H) (hD : va_D (fun q : Nat => s.heap.size ≤ q) (wA qc qm qo ca I J A L i a l9 o)) (hS : va_S (fun q : Nat => s.heap.size ≤ q) s.heap H locs) (hl : lv_has ls 8 [(4, .int (nI n)), (3, .ref qo), (2, .ref (qm 0)), (1, .ref (qc 0)), (0, .ref b)]) (hst : st_machine Rel I J A L i a l9 o (xs (n + 1)) (xs (n + 2)) (xs (n + 3)) (xs (n + 4))) (hnext : ∀ (I : Nat → Int32) (J : Nat → Int64) (A : Nat → Nat → Int32) (L : Nat → Nat → Int64) (i : Nat → Int32) (a : Nat → Nat → Int32) (l9 : Nat → Nat → Int64) (o : Nat → Int64) (H : Heap) (locs : List Loc) (ls : Array Slot), Rel I J A L i a l9 → va_P D vwCl (wA qc qm qo ca I J A L i a l9 o) H → va_D (fun q : Nat => s.heap.size ≤ q) (wA qc qm qo ca I J A L i a l9 o) → va_S (fun q : Nat => s.heap.size ≤ q) s.heap H locs → lv_has ls 8 [(4, .int (nI n)), (3, .ref qo), (2, .ref (qm 0)), (1, .ref (qc 0)), (0, .ref b)] → W p l e room_1 s m #[Value.ref b] below meth c H locs (400 + n + 1) (20000 + 6 * n + 6) (lw_Z below #[Value.ref b] s) (F0 m 1452 ls [])) : W p l e room_1 s m #[Value.ref b] below meth c H locs (400 + n) (20000 + 6 * n) (lw_Z below #[Value.ref b] s) (F0 m 384 ls []) := by
  obtain ⟨hx, hb, hr, hml, hown, hts0, hX, hbl, hlocks, hgv⟩ := C0
  have hts : ∀ w ∈ TT, w.before #[Value.ref b] s = true := fun w h => hts0 w (List.mem_filter.mp h).1
  have hA : ∀ q : Nat, s.heap.size ≤ q → (fun q : Nat => s.heap.size ≤ q) q := fun _ h => h
  have hbA : ¬ (fun q : Nat => s.heap.size ≤ q) b := Nat.not_le.mpr hbl
  have hown : s.vm.findClass nR_Law = some m.cls := hown
  have hev : xt_ev s H := k_evH hev0 hS
  unfold st_machine at hst
  rcases hst with ⟨R1, R2, R3, R4, R5, S0, S1, S2, S3, S4, S5, e1, e2, et, ea, hRel⟩ | ⟨S0, S1, S2, S3, S4, S5, e1, e2, et, hRel⟩ | ⟨S0, S1, S2, S3, S4, S5, e1, e2, et, hRel⟩
  ·
    refine lv_aload_n hx hb nd_Law_law_384 rfl (lv_at hl 3 rfl) ?_
    refine lv_aload_n hx hb nd_Law_law_385 rfl (lv_at hl 4 rfl) ?_
    refine lv_iload hx hb nd_Law_law_386 (lv_at hl 0 rfl) ?_
    refine lv_iconst (v := 1) hx hb nd_Law_law_388 (by decide) ?_
    refine lv_iadd hx hb nd_Law_law_389 ?_
    refine k_sld (n := n) (j := 1) hx hb hX hbl hbA hS (k_sidx rfl) (by omega) hL nd_Law_law_390 ?_
    refine lv_aload_n hx hb nd_Law_law_391 rfl (lv_at hl 4 rfl) ?_
    refine lv_iload hx hb nd_Law_law_392 (lv_at hl 0 rfl) ?_
    refine lv_iconst (v := 2) hx hb nd_Law_law_394 (by decide) ?_
    refine lv_iadd hx hb nd_Law_law_395 ?_
    refine k_sld (n := n) (j := 2) hx hb hX hbl hbA hS (k_sidx rfl) (by omega) hL nd_Law_law_396 ?_
    refine lv_aload_n hx hb nd_Law_law_397 rfl (lv_at hl 4 rfl) ?_
    refine lv_iload hx hb nd_Law_law_398 (lv_at hl 0 rfl) ?_
    refine lv_iconst (v := 3) hx hb nd_Law_law_400 (by decide) ?_
    refine lv_iadd hx hb nd_Law_law_401 ?_
    refine k_sld (n := n) (j := 3) hx hb hX hbl hbA hS (k_sidx rfl) (by omega) hL nd_Law_law_402 ?_
    refine lv_aload_n hx hb nd_Law_law_403 rfl (lv_at hl 4 rfl) ?_
    refine lv_iload hx hb nd_Law_law_404 (lv_at hl 0 rfl) ?_
    refine lv_iconst (v := 4) hx hb nd_Law_law_406 (by decide) ?_
    refine lv_iadd hx hb nd_Law_law_407 ?_
    refine k_sld (n := n) (j := 4) hx hb hX hbl hbA hS (k_sidx rfl) (by omega) hL nd_Law_law_408 ?_
    refine k_wSWI (wr := k_pick (wA qc qm qo ca I J A L i a l9 o) [2, 3, 4, 5, 6, 7, 8, 9, 10, 11, 12, 19, 20, 21, 22, 23, 24, 25, 26, 27, 28, 29, 30, 31, 32, 33, 34, 35, 36, 37, 38, 39, 40, 41, 42, 43, 44, 45, 46, 47, 48, 49, 50, 51, 52, 53, 54, 55, 56, 57, 58, 59, 60, 61, 62, 63, 64, 65, 66, 67, 68, 69, 70, 71, 72, 73, 74, 75, 76, 77, 78, 79, 80, 81, 82, 83, 84, 85, 86, 87, 88]) (w2 := wA qc qm qo ca I J (va_up (va_up (va_up (va_up (va_up A 4 R1) 5 R2) 6 R3) 7 R4) 8 R5) L i a l9 o) (As := [.ref (qc 0), .int (xs (n + 1)), .int (xs (n + 2)), .int (xs (n + 3)), .int (xs (n + 4))]) (rest := []) (r := 0) hx hb hml hown hts (cn_Law_machine l D ca (qc 0) (qc 1) (qc 19) (qc 34) (qc 47) (qc 48) (qc 58) (qc 2) (qc 5) (qc 9) (qc 13) (qc 14) (qc 15) (qc 16) (qc 17) (qc 18) (I 0) (A 4) (A 5) (A 6) (A 7) (A 8) (xs (n + 1)) (xs (n + 2)) (xs (n + 3)) (xs (n + 4)) (0 : Int32) R1 R2 R3 R4 R5 e1 _) kc_Law_machine ks_Law_machine tt_408 ⟨by decide, by decide⟩ rfl rfl hP hK hD hS hA [0, 1, 13, 14, 15, 16, 17, 18] [2, 3, 4, 5, 6, 7, 8, 9, 10, 11, 12, 19, 20, 21, 22, 23, 24, 25, 26, 27, 28, 29, 30, 31, 32, 33, 34, 35, 36, 37, 38, 39, 40, 41, 42, 43, 44, 45, 46, 47, 48, 49, 50, 51, 52, 53, 54, 55, 56, 57, 58, 59, 60, 61, 62, 63, 64, 65, 66, 67, 68, 69, 70, 71, 72, 73, 74, 75, 76, 77, 78, 79, 80, 81, 82, 83, 84, 85, 86, 87, 88] [81, 82, 0, 1, 2, 3, 4, 5, 6, 7, 8, 9, 10, 83, 84, 85, 86, 87, 88, 11, 12, 13, 14, 15, 16, 17, 18, 19, 20, 21, 22, 23, 24, 25, 26, 27, 28, 29, 30, 31, 32, 33, 34, 35, 36, 37, 38, 39, 40, 41, 42, 43, 44, 45, 46, 47, 48, 49, 50, 51, 52, 53, 54, 55, 56, 57, 58, 59, 60, 61, 62, 63, 64, 65, 66, 67, 68, 69, 70, 71, 72, 73, 74, 75, 76, 77, 78, 79, 80] rfl (by decide) rfl (by decide) (by decide) rfl (by decide) rfl hl.1 (Nat.le_of_ble_eq_true rfl) rfl nd_Law_law_409 ⟨by show _ ≤ 601024; omega, by show _ ≤ 7293034; omega⟩ (fun H locs hP hD hS => ?_)
    refine W.widen (k := 400 + n) (n := 20000 + 6 * n) (by omega) (by omega) ?_
    refine lv_istore (lv' := [(5, .int 0), (4, .int (nI n)), (3, .ref qo), (2, .ref (qm 0)), (1, .ref (qc 0)), (0, .ref b)]) hx hb nd_Law_law_412 hl (by decide) rfl (fun ls hl => ?_)
    refine lv_aload_n hx hb nd_Law_law_414 rfl (lv_at hl 3 rfl) ?_
    refine lv_aload_n hx hb nd_Law_law_415 rfl (lv_at hl 5 rfl) ?_
    refine lv_iload hx hb nd_Law_law_416 (lv_at hl 1 rfl) ?_
    refine lv_iconst (v := 1) hx hb nd_Law_law_418 (by decide) ?_
    refine lv_iadd hx hb nd_Law_law_419 ?_
    refine k_sld (n := n) (j := 1) hx hb hX hbl hbA hS (k_sidx rfl) (by omega) hL nd_Law_law_420 ?_
    refine lv_aload_n hx hb nd_Law_law_421 rfl (lv_at hl 5 rfl) ?_
    refine lv_iload hx hb nd_Law_law_422 (lv_at hl 1 rfl) ?_
    refine lv_iconst (v := 2) hx hb nd_Law_law_424 (by decide) ?_
    refine lv_iadd hx hb nd_Law_law_425 ?_
    refine k_sld (n := n) (j := 2) hx hb hX hbl hbA hS (k_sidx rfl) (by omega) hL nd_Law_law_426 ?_
    refine lv_aload_n hx hb nd_Law_law_427 rfl (lv_at hl 5 rfl) ?_
    refine lv_iload hx hb nd_Law_law_428 (lv_at hl 1 rfl) ?_
    refine lv_iconst (v := 3) hx hb nd_Law_law_430 (by decide) ?_
    refine lv_iadd hx hb nd_Law_law_431 ?_
    refine k_sld (n := n) (j := 3) hx hb hX hbl hbA hS (k_sidx rfl) (by omega) hL nd_Law_law_432 ?_
    refine lv_aload_n hx hb nd_Law_law_433 rfl (lv_at hl 5 rfl) ?_
    refine lv_iload hx hb nd_Law_law_434 (lv_at hl 1 rfl) ?_
    refine lv_iconst (v := 4) hx hb nd_Law_law_436 (by decide) ?_
    refine lv_iadd hx hb nd_Law_law_437 ?_
    refine k_sld (n := n) (j := 4) hx hb hX hbl hbA hS (k_sidx rfl) (by omega) hL nd_Law_law_438 ?_
    refine k_wVV (wr := k_pick (wA qc qm qo ca I J (va_up (va_up (va_up (va_up (va_up A 4 R1) 5 R2) 6 R3) 7 R4) 8 R5) L i a l9 o) [0, 1, 2, 3, 4, 5, 6, 7, 8, 9, 10, 11, 12, 13, 14, 15, 16, 17, 18, 19, 20, 21, 22, 23, 24, 25, 26, 27, 28, 29, 30, 31, 32, 33, 34, 35, 36, 37, 38, 39, 40, 41, 42, 43, 44, 45, 46, 47, 48, 49, 50, 51, 52, 53, 54, 55, 56, 57, 58, 59, 60, 61, 62, 65, 66, 67, 68, 69, 70, 71, 76, 77, 78, 79, 80, 81, 82, 83, 84, 85, 86, 87, 88]) (w2 := wA qc qm qo ca I J (va_up (va_up (va_up (va_up (va_up A 4 R1) 5 R2) 6 R3) 7 R4) 8 R5) L (va_up i 0 S0) (va_up (va_up (va_up (va_up a 4 S1) 5 S2) 6 S3) 7 S4) (va_up l9 0 S5) o) (As := [.int (xs (n + 1)), .int (xs (n + 2)), .int (xs (n + 3)), .int (xs (n + 4))]) (rest := []) hx hb hml hown hts (cn_Model_machine l D ca (qm 0) (qm 1) (qm 2) (qm 3) (qm 4) (qm 5) (qm 6) (qm 7) (qm 8) (qm 9) (qm 10) (qm 11) (qm 12) (qm 13) (qm 14) (qm 15) (qm 16) (qm 17) (qm 18) (qm 19) (qm 20) (qm 21) (qm 22) (qm 23) (qm 24) (i 0) (i 1) (i 2) (i 3) (i 4) (i 5) (i 6) (i 7) (a 4) (a 5) (a 6) (a 7) (l9 0) (xs (n + 1)) (xs (n + 2)) (xs (n + 3)) (xs (n + 4)) S0 S1 S2 S3 S4 S5 e2 _) kc_Model_machine kv_Model_machine tt_849 ⟨by decide, by decide⟩ rfl rfl hP hK hD hS hA [63, 72, 73, 74, 75, 64] [0, 1, 2, 3, 4, 5, 6, 7, 8, 9, 10, 11, 12, 13, 14, 15, 16, 17, 18, 19, 20, 21, 22, 23, 24, 25, 26, 27, 28, 29, 30, 31, 32, 33, 34, 35, 36, 37, 38, 39, 40, 41, 42, 43, 44, 45, 46, 47, 48, 49, 50, 51, 52, 53, 54, 55, 56, 57, 58, 59, 60, 61, 62, 65, 66, 67, 68, 69, 70, 71, 76, 77, 78, 79, 80, 81, 82, 83, 84, 85, 86, 87, 88] [0, 1, 2, 3, 4, 5, 6, 7, 8, 9, 10, 11, 12, 13, 14, 15, 16, 17, 18, 19, 20, 21, 22, 23, 24, 25, 26, 27, 28, 29, 30, 31, 32, 33, 34, 35, 36, 37, 38, 39, 40, 41, 42, 43, 44, 45, 46, 47, 48, 49, 50, 51, 52, 53, 54, 55, 56, 57, 58, 59, 60, 61, 62, 83, 88, 63, 64, 65, 66, 67, 68, 69, 84, 85, 86, 87, 70, 71, 72, 73, 74, 75, 76, 77, 78, 79, 80, 81, 82] rfl (by decide) rfl (by decide) (by decide) rfl (by decide) 0 rfl rfl rfl rfl hl.1 (Nat.le_of_ble_eq_true rfl) rfl nd_Law_law_439 ⟨by show _ ≤ 601024; omega, by show _ ≤ 7293034; omega⟩ (fun H locs hP hD hS => ?_)
    refine lv_aload_n hx hb nd_Law_law_442 rfl (lv_at hl 3 rfl) ?_
    refine k_rVI (As := []) (rest := []) (r := S0) hx hb hml hown hts (cn_Model_thrown l D ca (qm 0) (qm 1) (qm 2) (qm 3) (qm 4) (qm 5) (qm 6) (qm 7) (qm 8) (qm 9) (qm 10) (qm 11) (qm 12) (qm 13) (qm 14) (qm 15) (qm 16) (qm 17) (qm 18) (qm 19) (qm 20) (qm 21) (qm 22) (qm 23) (qm 24) ((va_up i 0 S0) 0) ((va_up i 0 S0) 1) ((va_up i 0 S0) 2) ((va_up i 0 S0) 3) ((va_up i 0 S0) 4) ((va_up i 0 S0) 5) ((va_up i 0 S0) 6) ((va_up i 0 S0) 7) S0 rfl) kc_Model_thrown kv_Model_thrown tt_820 ⟨by decide, by decide⟩ rfl rfl hP hK [63] rfl 0 rfl rfl rfl rfl hl.1 (Nat.le_of_ble_eq_true rfl) rfl nd_Law_law_443 ⟨by show _ ≤ 601024; omega, by show _ ≤ 7293034; omega⟩ ?_
    refine lv_iload hx hb nd_Law_law_446 (lv_at hl 0 rfl) ?_
    refine lv_icmp_eq (tgt := 453) hx hb nd_Law_law_448 (by decide) (fun c1 => ?_) (fun c1 => ?_)
    rotate_left
    · exact absurd et c1
    refine lv_goto (tgt := 1452) hx hb nd_Law_law_453 (by decide) ?_
    refine W.widen (k := 400 + n + 1) (n := 20000 + 6 * n + 6) (by omega) (by omega) ?_
    exact hnext _ _ _ _ _ _ _ _ _ _ _ hRel hP hD hS (lv_sub hl [1, 2, 3, 4, 5] rfl)
  ·
    refine lv_aload_n hx hb nd_Law_law_384 rfl (lv_at hl 3 rfl) ?_
    refine lv_aload_n hx hb nd_Law_law_385 rfl (lv_at hl 4 rfl) ?_
    refine lv_iload hx hb nd_Law_law_386 (lv_at hl 0 rfl) ?_
    refine lv_iconst (v := 1) hx hb nd_Law_law_388 (by decide) ?_
    refine lv_iadd hx hb nd_Law_law_389 ?_
    refine k_sld (n := n) (j := 1) hx hb hX hbl hbA hS (k_sidx rfl) (by omega) hL nd_Law_law_390 ?_
    refine lv_aload_n hx hb nd_Law_law_391 rfl (lv_at hl 4 rfl) ?_
    refine lv_iload hx hb nd_Law_law_392 (lv_at hl 0 rfl) ?_
    refine lv_iconst (v := 2) hx hb nd_Law_law_394 (by decide) ?_
    refine lv_iadd hx hb nd_Law_law_395 ?_
    refine k_sld (n := n) (j := 2) hx hb hX hbl hbA hS (k_sidx rfl) (by omega) hL nd_Law_law_396 ?_
    refine lv_aload_n hx hb nd_Law_law_397 rfl (lv_at hl 4 rfl) ?_
    refine lv_iload hx hb nd_Law_law_398 (lv_at hl 0 rfl) ?_
    refine lv_iconst (v := 3) hx hb nd_Law_law_400 (by decide) ?_
    refine lv_iadd hx hb nd_Law_law_401 ?_
    refine k_sld (n := n) (j := 3) hx hb hX hbl hbA hS (k_sidx rfl) (by omega) hL nd_Law_law_402 ?_
    refine lv_aload_n hx hb nd_Law_law_403 rfl (lv_at hl 4 rfl) ?_
    refine lv_iload hx hb nd_Law_law_404 (lv_at hl 0 rfl) ?_
    refine lv_iconst (v := 4) hx hb nd_Law_law_406 (by decide) ?_
    refine lv_iadd hx hb nd_Law_law_407 ?_
    refine k_sld (n := n) (j := 4) hx hb hX hbl hbA hS (k_sidx rfl) (by omega) hL nd_Law_law_408 ?_
    refine k_wSWX (wr := k_pick (wA qc qm qo ca I J A L i a l9 o) [2, 3, 4, 5, 6, 7, 8, 9, 10, 11, 12, 19, 20, 21, 22, 23, 24, 25, 26, 27, 28, 29, 30, 31, 32, 33, 34, 35, 36, 37, 38, 39, 40, 41, 42, 43, 44, 45, 46, 47, 48, 49, 50, 51, 52, 53, 54, 55, 56, 57, 58, 59, 60, 61, 62, 63, 64, 65, 66, 67, 68, 69, 70, 71, 72, 73, 74, 75, 76, 77, 78, 79, 80, 81, 82, 83, 84, 85, 86, 87, 88]) (w2 := wA qc qm qo ca I J A L i a l9 o) (As := [.ref (qc 0), .int (xs (n + 1)), .int (xs (n + 2)), .int (xs (n + 3)), .int (xs (n + 4))]) (rest := []) (r := 1) hx hb hml hown hts (hx_Law_machine_1 l hlt D ca (qc 0) (qc 1) (qc 19) (qc 34) (qc 47) (qc 48) (qc 58) (qc 2) (qc 5) (qc 9) (qc 13) (qc 14) (qc 15) (qc 16) (qc 17) (qc 18) (I 0) (A 4) (A 5) (A 6) (A 7) (A 8) (xs (n + 1)) (xs (n + 2)) (xs (n + 3)) (xs (n + 4)) e1 _) kc_Law_machine ks_Law_machine tt_408 ⟨by decide, by decide⟩ rfl rfl hP hK hD hS hA hev [0, 1, 13, 14, 15, 16, 17, 18] [2, 3, 4, 5, 6, 7, 8, 9, 10, 11, 12, 19, 20, 21, 22, 23, 24, 25, 26, 27, 28, 29, 30, 31, 32, 33, 34, 35, 36, 37, 38, 39, 40, 41, 42, 43, 44, 45, 46, 47, 48, 49, 50, 51, 52, 53, 54, 55, 56, 57, 58, 59, 60, 61, 62, 63, 64, 65, 66, 67, 68, 69, 70, 71, 72, 73, 74, 75, 76, 77, 78, 79, 80, 81, 82, 83, 84, 85, 86, 87, 88] [81, 82, 0, 1, 2, 3, 4, 5, 6, 7, 8, 9, 10, 83, 84, 85, 86, 87, 88, 11, 12, 13, 14, 15, 16, 17, 18, 19, 20, 21, 22, 23, 24, 25, 26, 27, 28, 29, 30, 31, 32, 33, 34, 35, 36, 37, 38, 39, 40, 41, 42, 43, 44, 45, 46, 47, 48, 49, 50, 51, 52, 53, 54, 55, 56, 57, 58, 59, 60, 61, 62, 63, 64, 65, 66, 67, 68, 69, 70, 71, 72, 73, 74, 75, 76, 77, 78, 79, 80] rfl (by decide) rfl (by decide) (by decide) rfl (by decide) rfl hl.1 (Nat.le_of_ble_eq_true rfl) rfl nd_Law_law_409 ⟨by show _ ≤ 601024; omega, by show _ ≤ 7293034; omega⟩ (fun H locs hP hD hS => ?_)
    refine W.widen (k := 400 + n + 1) (n := 20000 + 6 * n + 6) (by omega) (by omega) ?_
    refine lv_istore (lv' := [(5, .int 1), (4, .int (nI n)), (3, .ref qo), (2, .ref (qm 0)), (1, .ref (qc 0)), (0, .ref b)]) hx hb nd_Law_law_412 hl (by decide) rfl (fun ls hl => ?_)
    refine lv_aload_n hx hb nd_Law_law_414 rfl (lv_at hl 3 rfl) ?_
    refine lv_aload_n hx hb nd_Law_law_415 rfl (lv_at hl 5 rfl) ?_
    refine lv_iload hx hb nd_Law_law_416 (lv_at hl 1 rfl) ?_
    refine lv_iconst (v := 1) hx hb nd_Law_law_418 (by decide) ?_
    refine lv_iadd hx hb nd_Law_law_419 ?_
    refine k_sld (n := n) (j := 1) hx hb hX hbl hbA hS (k_sidx rfl) (by omega) hL nd_Law_law_420 ?_
    refine lv_aload_n hx hb nd_Law_law_421 rfl (lv_at hl 5 rfl) ?_
    refine lv_iload hx hb nd_Law_law_422 (lv_at hl 1 rfl) ?_
    refine lv_iconst (v := 2) hx hb nd_Law_law_424 (by decide) ?_
    refine lv_iadd hx hb nd_Law_law_425 ?_
    refine k_sld (n := n) (j := 2) hx hb hX hbl hbA hS (k_sidx rfl) (by omega) hL nd_Law_law_426 ?_
    refine lv_aload_n hx hb nd_Law_law_427 rfl (lv_at hl 5 rfl) ?_
    refine lv_iload hx hb nd_Law_law_428 (lv_at hl 1 rfl) ?_
    refine lv_iconst (v := 3) hx hb nd_Law_law_430 (by decide) ?_
    refine lv_iadd hx hb nd_Law_law_431 ?_
    refine k_sld (n := n) (j := 3) hx hb hX hbl hbA hS (k_sidx rfl) (by omega) hL nd_Law_law_432 ?_
    refine lv_aload_n hx hb nd_Law_law_433 rfl (lv_at hl 5 rfl) ?_
    refine lv_iload hx hb nd_Law_law_434 (lv_at hl 1 rfl) ?_
    refine lv_iconst (v := 4) hx hb nd_Law_law_436 (by decide) ?_
    refine lv_iadd hx hb nd_Law_law_437 ?_
    refine k_sld (n := n) (j := 4) hx hb hX hbl hbA hS (k_sidx rfl) (by omega) hL nd_Law_law_438 ?_
    refine k_wVV (wr := k_pick (wA qc qm qo ca I J A L i a l9 o) [0, 1, 2, 3, 4, 5, 6, 7, 8, 9, 10, 11, 12, 13, 14, 15, 16, 17, 18, 19, 20, 21, 22, 23, 24, 25, 26, 27, 28, 29, 30, 31, 32, 33, 34, 35, 36, 37, 38, 39, 40, 41, 42, 43, 44, 45, 46, 47, 48, 49, 50, 51, 52, 53, 54, 55, 56, 57, 58, 59, 60, 61, 62, 65, 66, 67, 68, 69, 70, 71, 76, 77, 78, 79, 80, 81, 82, 83, 84, 85, 86, 87, 88]) (w2 := wA qc qm qo ca I J A L (va_up i 0 S0) (va_up (va_up (va_up (va_up a 4 S1) 5 S2) 6 S3) 7 S4) (va_up l9 0 S5) o) (As := [.int (xs (n + 1)), .int (xs (n + 2)), .int (xs (n + 3)), .int (xs (n + 4))]) (rest := []) hx hb hml hown hts (cn_Model_machine l D ca (qm 0) (qm 1) (qm 2) (qm 3) (qm 4) (qm 5) (qm 6) (qm 7) (qm 8) (qm 9) (qm 10) (qm 11) (qm 12) (qm 13) (qm 14) (qm 15) (qm 16) (qm 17) (qm 18) (qm 19) (qm 20) (qm 21) (qm 22) (qm 23) (qm 24) (i 0) (i 1) (i 2) (i 3) (i 4) (i 5) (i 6) (i 7) (a 4) (a 5) (a 6) (a 7) (l9 0) (xs (n + 1)) (xs (n + 2)) (xs (n + 3)) (xs (n + 4)) S0 S1 S2 S3 S4 S5 e2 _) kc_Model_machine kv_Model_machine tt_849 ⟨by decide, by decide⟩ rfl rfl hP hK hD hS hA [63, 72, 73, 74, 75, 64] [0, 1, 2, 3, 4, 5, 6, 7, 8, 9, 10, 11, 12, 13, 14, 15, 16, 17, 18, 19, 20, 21, 22, 23, 24, 25, 26, 27, 28, 29, 30, 31, 32, 33, 34, 35, 36, 37, 38, 39, 40, 41, 42, 43, 44, 45, 46, 47, 48, 49, 50, 51, 52, 53, 54, 55, 56, 57, 58, 59, 60, 61, 62, 65, 66, 67, 68, 69, 70, 71, 76, 77, 78, 79, 80, 81, 82, 83, 84, 85, 86, 87, 88] [0, 1, 2, 3, 4, 5, 6, 7, 8, 9, 10, 11, 12, 13, 14, 15, 16, 17, 18, 19, 20, 21, 22, 23, 24, 25, 26, 27, 28, 29, 30, 31, 32, 33, 34, 35, 36, 37, 38, 39, 40, 41, 42, 43, 44, 45, 46, 47, 48, 49, 50, 51, 52, 53, 54, 55, 56, 57, 58, 59, 60, 61, 62, 83, 88, 63, 64, 65, 66, 67, 68, 69, 84, 85, 86, 87, 70, 71, 72, 73, 74, 75, 76, 77, 78, 79, 80, 81, 82] rfl (by decide) rfl (by decide) (by decide) rfl (by decide) 0 rfl rfl rfl rfl hl.1 (Nat.le_of_ble_eq_true rfl) rfl nd_Law_law_439 ⟨by show _ ≤ 601024; omega, by show _ ≤ 7293034; omega⟩ (fun H locs hP hD hS => ?_)
    refine lv_aload_n hx hb nd_Law_law_442 rfl (lv_at hl 3 rfl) ?_
    refine k_rVI (As := []) (rest := []) (r := S0) hx hb hml hown hts (cn_Model_thrown l D ca (qm 0) (qm 1) (qm 2) (qm 3) (qm 4) (qm 5) (qm 6) (qm 7) (qm 8) (qm 9) (qm 10) (qm 11) (qm 12) (qm 13) (qm 14) (qm 15) (qm 16) (qm 17) (qm 18) (qm 19) (qm 20) (qm 21) (qm 22) (qm 23) (qm 24) ((va_up i 0 S0) 0) ((va_up i 0 S0) 1) ((va_up i 0 S0) 2) ((va_up i 0 S0) 3) ((va_up i 0 S0) 4) ((va_up i 0 S0) 5) ((va_up i 0 S0) 6) ((va_up i 0 S0) 7) S0 rfl) kc_Model_thrown kv_Model_thrown tt_820 ⟨by decide, by decide⟩ rfl rfl hP hK [63] rfl 0 rfl rfl rfl rfl hl.1 (Nat.le_of_ble_eq_true rfl) rfl nd_Law_law_443 ⟨by show _ ≤ 601024; omega, by show _ ≤ 7293034; omega⟩ ?_
    refine lv_iload hx hb nd_Law_law_446 (lv_at hl 0 rfl) ?_
    refine lv_icmp_eq (tgt := 453) hx hb nd_Law_law_448 (by decide) (fun c2 => ?_) (fun c2 => ?_)
    rotate_left
    · exact absurd et c2
    refine lv_goto (tgt := 1452) hx hb nd_Law_law_453 (by decide) ?_
    refine W.widen (k := 400 + n + 1) (n := 20000 + 6 * n + 6) (by omega) (by omega) ?_
    exact hnext _ _ _ _ _ _ _ _ _ _ _ hRel hP hD hS (lv_sub hl [1, 2, 3, 4, 5] rfl)
  ·
    refine lv_aload_n hx hb nd_Law_law_384 rfl (lv_at hl 3 rfl) ?_
    refine lv_aload_n hx hb nd_Law_law_385 rfl (lv_at hl 4 rfl) ?_
    refine lv_iload hx hb nd_Law_law_386 (lv_at hl 0 rfl) ?_
    refine lv_iconst (v := 1) hx hb nd_Law_law_388 (by decide) ?_
    refine lv_iadd hx hb nd_Law_law_389 ?_
    refine k_sld (n := n) (j := 1) hx hb hX hbl hbA hS (k_sidx rfl) (by omega) hL nd_Law_law_390 ?_
    refine lv_aload_n hx hb nd_Law_law_391 rfl (lv_at hl 4 rfl) ?_
    refine lv_iload hx hb nd_Law_law_392 (lv_at hl 0 rfl) ?_
    refine lv_iconst (v := 2) hx hb nd_Law_law_394 (by decide) ?_
    refine lv_iadd hx hb nd_Law_law_395 ?_
    refine k_sld (n := n) (j := 2) hx hb hX hbl hbA hS (k_sidx rfl) (by omega) hL nd_Law_law_396 ?_
    refine lv_aload_n hx hb nd_Law_law_397 rfl (lv_at hl 4 rfl) ?_
    refine lv_iload hx hb nd_Law_law_398 (lv_at hl 0 rfl) ?_
    refine lv_iconst (v := 3) hx hb nd_Law_law_400 (by decide) ?_
    refine lv_iadd hx hb nd_Law_law_401 ?_
    refine k_sld (n := n) (j := 3) hx hb hX hbl hbA hS (k_sidx rfl) (by omega) hL nd_Law_law_402 ?_
    refine lv_aload_n hx hb nd_Law_law_403 rfl (lv_at hl 4 rfl) ?_
    refine lv_iload hx hb nd_Law_law_404 (lv_at hl 0 rfl) ?_
    refine lv_iconst (v := 4) hx hb nd_Law_law_406 (by decide) ?_
    refine lv_iadd hx hb nd_Law_law_407 ?_
    refine k_sld (n := n) (j := 4) hx hb hX hbl hbA hS (k_sidx rfl) (by omega) hL nd_Law_law_408 ?_
    refine k_wSWX (wr := k_pick (wA qc qm qo ca I J A L i a l9 o) [2, 3, 4, 5, 6, 7, 8, 9, 10, 11, 12, 19, 20, 21, 22, 23, 24, 25, 26, 27, 28, 29, 30, 31, 32, 33, 34, 35, 36, 37, 38, 39, 40, 41, 42, 43, 44, 45, 46, 47, 48, 49, 50, 51, 52, 53, 54, 55, 56, 57, 58, 59, 60, 61, 62, 63, 64, 65, 66, 67, 68, 69, 70, 71, 72, 73, 74, 75, 76, 77, 78, 79, 80, 81, 82, 83, 84, 85, 86, 87, 88]) (w2 := wA qc qm qo ca I J A L i a l9 o) (As := [.ref (qc 0), .int (xs (n + 1)), .int (xs (n + 2)), .int (xs (n + 3)), .int (xs (n + 4))]) (rest := []) (r := 2) hx hb hml hown hts (hx_Law_machine_3 l hlt D ca (qc 0) (qc 1) (qc 19) (qc 34) (qc 47) (qc 48) (qc 58) (qc 2) (qc 5) (qc 9) (qc 13) (qc 14) (qc 15) (qc 16) (qc 17) (qc 18) (I 0) (A 4) (A 5) (A 6) (A 7) (A 8) (xs (n + 1)) (xs (n + 2)) (xs (n + 3)) (xs (n + 4)) e1 _) kc_Law_machine ks_Law_machine tt_408 ⟨by decide, by decide⟩ rfl rfl hP hK hD hS hA hev [0, 1, 13, 14, 15, 16, 17, 18] [2, 3, 4, 5, 6, 7, 8, 9, 10, 11, 12, 19, 20, 21, 22, 23, 24, 25, 26, 27, 28, 29, 30, 31, 32, 33, 34, 35, 36, 37, 38, 39, 40, 41, 42, 43, 44, 45, 46, 47, 48, 49, 50, 51, 52, 53, 54, 55, 56, 57, 58, 59, 60, 61, 62, 63, 64, 65, 66, 67, 68, 69, 70, 71, 72, 73, 74, 75, 76, 77, 78, 79, 80, 81, 82, 83, 84, 85, 86, 87, 88] [81, 82, 0, 1, 2, 3, 4, 5, 6, 7, 8, 9, 10, 83, 84, 85, 86, 87, 88, 11, 12, 13, 14, 15, 16, 17, 18, 19, 20, 21, 22, 23, 24, 25, 26, 27, 28, 29, 30, 31, 32, 33, 34, 35, 36, 37, 38, 39, 40, 41, 42, 43, 44, 45, 46, 47, 48, 49, 50, 51, 52, 53, 54, 55, 56, 57, 58, 59, 60, 61, 62, 63, 64, 65, 66, 67, 68, 69, 70, 71, 72, 73, 74, 75, 76, 77, 78, 79, 80] rfl (by decide) rfl (by decide) (by decide) rfl (by decide) rfl hl.1 (Nat.le_of_ble_eq_true rfl) rfl nd_Law_law_409 ⟨by show _ ≤ 601024; omega, by show _ ≤ 7293034; omega⟩ (fun H locs hP hD hS => ?_)
    refine W.widen (k := 400 + n + 1) (n := 20000 + 6 * n + 6) (by omega) (by omega) ?_
    refine lv_istore (lv' := [(5, .int 2), (4, .int (nI n)), (3, .ref qo), (2, .ref (qm 0)), (1, .ref (qc 0)), (0, .ref b)]) hx hb nd_Law_law_412 hl (by decide) rfl (fun ls hl => ?_)
    refine lv_aload_n hx hb nd_Law_law_414 rfl (lv_at hl 3 rfl) ?_
    refine lv_aload_n hx hb nd_Law_law_415 rfl (lv_at hl 5 rfl) ?_
    refine lv_iload hx hb nd_Law_law_416 (lv_at hl 1 rfl) ?_
    refine lv_iconst (v := 1) hx hb nd_Law_law_418 (by decide) ?_
    refine lv_iadd hx hb nd_Law_law_419 ?_
    refine k_sld (n := n) (j := 1) hx hb hX hbl hbA hS (k_sidx rfl) (by omega) hL nd_Law_law_420 ?_
    refine lv_aload_n hx hb nd_Law_law_421 rfl (lv_at hl 5 rfl) ?_
    refine lv_iload hx hb nd_Law_law_422 (lv_at hl 1 rfl) ?_
    refine lv_iconst (v := 2) hx hb nd_Law_law_424 (by decide) ?_
    refine lv_iadd hx hb nd_Law_law_425 ?_
    refine k_sld (n := n) (j := 2) hx hb hX hbl hbA hS (k_sidx rfl) (by omega) hL nd_Law_law_426 ?_
    refine lv_aload_n hx hb nd_Law_law_427 rfl (lv_at hl 5 rfl) ?_
    refine lv_iload hx hb nd_Law_law_428 (lv_at hl 1 rfl) ?_
    refine lv_iconst (v := 3) hx hb nd_Law_law_430 (by decide) ?_
    refine lv_iadd hx hb nd_Law_law_431 ?_
    refine k_sld (n := n) (j := 3) hx hb hX hbl hbA hS (k_sidx rfl) (by omega) hL nd_Law_law_432 ?_
    refine lv_aload_n hx hb nd_Law_law_433 rfl (lv_at hl 5 rfl) ?_
    refine lv_iload hx hb nd_Law_law_434 (lv_at hl 1 rfl) ?_
    refine lv_iconst (v := 4) hx hb nd_Law_law_436 (by decide) ?_
    refine lv_iadd hx hb nd_Law_law_437 ?_
    refine k_sld (n := n) (j := 4) hx hb hX hbl hbA hS (k_sidx rfl) (by omega) hL nd_Law_law_438 ?_
    refine k_wVV (wr := k_pick (wA qc qm qo ca I J A L i a l9 o) [0, 1, 2, 3, 4, 5, 6, 7, 8, 9, 10, 11, 12, 13, 14, 15, 16, 17, 18, 19, 20, 21, 22, 23, 24, 25, 26, 27, 28, 29, 30, 31, 32, 33, 34, 35, 36, 37, 38, 39, 40, 41, 42, 43, 44, 45, 46, 47, 48, 49, 50, 51, 52, 53, 54, 55, 56, 57, 58, 59, 60, 61, 62, 65, 66, 67, 68, 69, 70, 71, 76, 77, 78, 79, 80, 81, 82, 83, 84, 85, 86, 87, 88]) (w2 := wA qc qm qo ca I J A L (va_up i 0 S0) (va_up (va_up (va_up (va_up a 4 S1) 5 S2) 6 S3) 7 S4) (va_up l9 0 S5) o) (As := [.int (xs (n + 1)), .int (xs (n + 2)), .int (xs (n + 3)), .int (xs (n + 4))]) (rest := []) hx hb hml hown hts (cn_Model_machine l D ca (qm 0) (qm 1) (qm 2) (qm 3) (qm 4) (qm 5) (qm 6) (qm 7) (qm 8) (qm 9) (qm 10) (qm 11) (qm 12) (qm 13) (qm 14) (qm 15) (qm 16) (qm 17) (qm 18) (qm 19) (qm 20) (qm 21) (qm 22) (qm 23) (qm 24) (i 0) (i 1) (i 2) (i 3) (i 4) (i 5) (i 6) (i 7) (a 4) (a 5) (a 6) (a 7) (l9 0) (xs (n + 1)) (xs (n + 2)) (xs (n + 3)) (xs (n + 4)) S0 S1 S2 S3 S4 S5 e2 _) kc_Model_machine kv_Model_machine tt_849 ⟨by decide, by decide⟩ rfl rfl hP hK hD hS hA [63, 72, 73, 74, 75, 64] [0, 1, 2, 3, 4, 5, 6, 7, 8, 9, 10, 11, 12, 13, 14, 15, 16, 17, 18, 19, 20, 21, 22, 23, 24, 25, 26, 27, 28, 29, 30, 31, 32, 33, 34, 35, 36, 37, 38, 39, 40, 41, 42, 43, 44, 45, 46, 47, 48, 49, 50, 51, 52, 53, 54, 55, 56, 57, 58, 59, 60, 61, 62, 65, 66, 67, 68, 69, 70, 71, 76, 77, 78, 79, 80, 81, 82, 83, 84, 85, 86, 87, 88] [0, 1, 2, 3, 4, 5, 6, 7, 8, 9, 10, 11, 12, 13, 14, 15, 16, 17, 18, 19, 20, 21, 22, 23, 24, 25, 26, 27, 28, 29, 30, 31, 32, 33, 34, 35, 36, 37, 38, 39, 40, 41, 42, 43, 44, 45, 46, 47, 48, 49, 50, 51, 52, 53, 54, 55, 56, 57, 58, 59, 60, 61, 62, 83, 88, 63, 64, 65, 66, 67, 68, 69, 84, 85, 86, 87, 70, 71, 72, 73, 74, 75, 76, 77, 78, 79, 80, 81, 82] rfl (by decide) rfl (by decide) (by decide) rfl (by decide) 0 rfl rfl rfl rfl hl.1 (Nat.le_of_ble_eq_true rfl) rfl nd_Law_law_439 ⟨by show _ ≤ 601024; omega, by show _ ≤ 7293034; omega⟩ (fun H locs hP hD hS => ?_)
    refine lv_aload_n hx hb nd_Law_law_442 rfl (lv_at hl 3 rfl) ?_
    refine k_rVI (As := []) (rest := []) (r := S0) hx hb hml hown hts (cn_Model_thrown l D ca (qm 0) (qm 1) (qm 2) (qm 3) (qm 4) (qm 5) (qm 6) (qm 7) (qm 8) (qm 9) (qm 10) (qm 11) (qm 12) (qm 13) (qm 14) (qm 15) (qm 16) (qm 17) (qm 18) (qm 19) (qm 20) (qm 21) (qm 22) (qm 23) (qm 24) ((va_up i 0 S0) 0) ((va_up i 0 S0) 1) ((va_up i 0 S0) 2) ((va_up i 0 S0) 3) ((va_up i 0 S0) 4) ((va_up i 0 S0) 5) ((va_up i 0 S0) 6) ((va_up i 0 S0) 7) S0 rfl) kc_Model_thrown kv_Model_thrown tt_820 ⟨by decide, by decide⟩ rfl rfl hP hK [63] rfl 0 rfl rfl rfl rfl hl.1 (Nat.le_of_ble_eq_true rfl) rfl nd_Law_law_443 ⟨by show _ ≤ 601024; omega, by show _ ≤ 7293034; omega⟩ ?_
    refine lv_iload hx hb nd_Law_law_446 (lv_at hl 0 rfl) ?_
    refine lv_icmp_eq (tgt := 453) hx hb nd_Law_law_448 (by decide) (fun c3 => ?_) (fun c3 => ?_)
    rotate_left
    · exact absurd et c3
    refine lv_goto (tgt := 1452) hx hb nd_Law_law_453 (by decide) ?_
    refine W.widen (k := 400 + n + 1) (n := 20000 + 6 * n + 6) (by omega) (by omega) ?_
    exact hnext _ _ _ _ _ _ _ _ _ _ _ hRel hP hD hS (lv_sub hl [1, 2, 3, 4, 5] rfl)
set_option maxHeartbeats 8000000 in
set_option maxRecDepth 100000 in
theorem lc_hour {p : Program} {l : Launch} {e : Env} {s : State} {m : MethodId} {below : List Frame} {meth : Method} {c : Code} {D : va_G} {ca : Nat → ClassId} {b Ls : Nat} {xs : Nat → Int32} (C0 : lw_At p s m meth c b Ls xs) (hL : Ls ≤ 2560) (hlt : l.stackTraces = false) (hev0 : xt_ev s s.heap) (hK : va_K D vwCl (tyG ca) s) {Rel : (Nat → Int32) → (Nat → Int64) → (Nat → Nat → Int32) → (Nat → Nat → Int64) → (Nat → Int32) → (Nat → Nat → Int32) → (Nat → Nat → Int64) → Prop} {qc qm : Nat → Nat} {qo : Nat} {I : Nat → Int32} {J : Nat → Int64} {A : Nat → Nat → Int32} {L : Nat → Nat → Int64} {i : Nat → Int32} {a : Nat → Nat → Int32} {l9 : Nat → Nat → Int64} {o : Nat → Int64} {n : Nat} (hn : n + 5 ≤ Ls) {H : Heap} {locs : List Loc} {ls : Array Slot} (hP : va_P D vwCl (wA qc qm qo ca I J A L i a l9 o) H) (hD : va_D (fun q : Nat => s.heap.size ≤ q) (wA qc qm qo ca I J A L i a l9 o)) (hS : va_S (fun q : Nat => s.heap.size ≤ q) s.heap H locs) (hl : lv_has ls 8 [(4, .int (nI n)), (3, .ref qo), (2, .ref (qm 0)), (1, .ref (qc 0)), (0, .ref b)]) (hst : st_hour Rel I J A L i a l9 o (xs (n + 1)) (xs (n + 2)) (xs (n + 3))) (hnext : ∀ (I : Nat → Int32) (J : Nat → Int64) (A : Nat → Nat → Int32) (L : Nat → Nat → Int64) (i : Nat → Int32) (a : Nat → Nat → Int32) (l9 : Nat → Nat → Int64) (o : Nat → Int64) (H : Heap) (locs : List Loc) (ls : Array Slot), Rel I J A L i a l9 → va_P D vwCl (wA qc qm qo ca I J A L i a l9 o) H → va_D (fun q : Nat => s.heap.size ≤ q) (wA qc qm qo ca I J A L i a l9 o) → va_S (fun q : Nat => s.heap.size ≤ q) s.heap H locs → lv_has ls 8 [(4, .int (nI n)), (3, .ref qo), (2, .ref (qm 0)), (1, .ref (qc 0)), (0, .ref b)] → W p l e room_1 s m #[Value.ref b] below meth c H locs (400 + n + 1) (20000 + 6 * n + 6) (lw_Z below #[Value.ref b] s) (F0 m 1452 ls [])) : W p l e room_1 s m #[Value.ref b] below meth c H locs (400 + n) (20000 + 6 * n) (lw_Z below #[Value.ref b] s) (F0 m 456 ls []) := by
  obtain ⟨hx, hb, hr, hml, hown, hts0, hX, hbl, hlocks, hgv⟩ := C0
  have hts : ∀ w ∈ TT, w.before #[Value.ref b] s = true := fun w h => hts0 w (List.mem_filter.mp h).1
  have hA : ∀ q : Nat, s.heap.size ≤ q → (fun q : Nat => s.heap.size ≤ q) q := fun _ h => h
  have hbA : ¬ (fun q : Nat => s.heap.size ≤ q) b := Nat.not_le.mpr hbl
  have hown : s.vm.findClass nR_Law = some m.cls := hown
  have hev : xt_ev s H := k_evH hev0 hS
  unfold st_hour at hst
  rcases hst with ⟨R1, R2, R3, R4, R5, R6, R7, R8, R9, R10, R11, R12, R13, R14, R15, S0, S1, S2, S3, S4, S5, S6, S7, e1, e2, et, ea, hRel⟩ | ⟨S0, S1, S2, S3, S4, S5, S6, S7, e1, e2, et, hRel⟩ | ⟨S0, S1, S2, S3, S4, S5, S6, S7, e1, e2, et, hRel⟩
  ·
    refine lv_aload_n hx hb nd_Law_law_456 rfl (lv_at hl 3 rfl) ?_
    refine lv_aload_n hx hb nd_Law_law_457 rfl (lv_at hl 4 rfl) ?_
    refine lv_iload hx hb nd_Law_law_458 (lv_at hl 0 rfl) ?_
    refine lv_iconst (v := 1) hx hb nd_Law_law_460 (by decide) ?_
    refine lv_iadd hx hb nd_Law_law_461 ?_
    refine k_sld (n := n) (j := 1) hx hb hX hbl hbA hS (k_sidx rfl) (by omega) hL nd_Law_law_462 ?_
    refine lv_aload_n hx hb nd_Law_law_463 rfl (lv_at hl 4 rfl) ?_
    refine lv_iload hx hb nd_Law_law_464 (lv_at hl 0 rfl) ?_
    refine lv_iconst (v := 2) hx hb nd_Law_law_466 (by decide) ?_
    refine lv_iadd hx hb nd_Law_law_467 ?_
    refine k_sld (n := n) (j := 2) hx hb hX hbl hbA hS (k_sidx rfl) (by omega) hL nd_Law_law_468 ?_
    refine lv_aload_n hx hb nd_Law_law_469 rfl (lv_at hl 4 rfl) ?_
    refine lv_iload hx hb nd_Law_law_470 (lv_at hl 0 rfl) ?_
    refine lv_iconst (v := 3) hx hb nd_Law_law_472 (by decide) ?_
    refine lv_iadd hx hb nd_Law_law_473 ?_
    refine k_sld (n := n) (j := 3) hx hb hX hbl hbA hS (k_sidx rfl) (by omega) hL nd_Law_law_474 ?_
    refine lv_aload_n hx hb nd_Law_law_475 rfl (lv_at hl 1 rfl) ?_
    refine k_wSWI (wr := k_pick (wA qc qm qo ca I J A L i a l9 o) [19, 20, 21, 22, 23, 24, 25, 26, 27, 28, 29, 30, 31, 32, 33, 58, 59, 60, 61, 62, 63, 64, 65, 66, 67, 68, 69, 70, 71, 72, 73, 74, 75, 76, 77, 78, 79, 80, 81, 82, 83, 84, 85, 86, 87]) (w2 := wA qc qm qo ca (va_up I 0 R14) (va_up (va_up (va_up J 0 R1) 1 R3) 2 R6) (va_up (va_up (va_up (va_up (va_up (va_up (va_up A 8 R7) 24 R8) 29 R9) 28 R10) 30 R11) 31 R12) 32 R13) (va_up (va_up (va_up L 0 R2) 1 R4) 2 R5) i a l9 R15) (As := [.ref (qc 0), .int (xs (n + 1)), .int (xs (n + 2)), .int (xs (n + 3)), .ref qo]) (rest := []) (r := 0) hx hb hml hown hts (cn_Law_hour l D ca (qc 0) (qc 1) (qc 19) (qc 34) (qc 47) (qc 48) (qc 58) (qc 2) (qc 5) (qc 9) (qc 13) (qc 3) (qc 4) (qc 6) (qc 7) (qc 8) (qc 10) (qc 11) (qc 12) (qc 14) (qc 15) (qc 16) (qc 17) (qc 18) (qc 35) (qc 38) (qc 41) (qc 44) (qc 36) (qc 37) (qc 39) (qc 40) (qc 42) (qc 43) (qc 45) (qc 46) (qc 49) (qc 50) (qc 51) (qc 52) (qc 53) (qc 54) (qc 55) (qc 56) (qc 57) qo (I 0) (I 1) (I 2) (J 0) (J 1) (L 0) (L 1) (I 3) (L 2) (A 0) (A 1) (I 4) (J 2) (I 5) (A 3) (A 2) (A 7) (A 4) (A 5) (A 8) (A 6) (A 24) (I 10) (A 16) (A 17) (I 11) (A 18) (A 19) (I 12) (A 20) (A 21) (I 13) (A 22) (A 23) (I 14) (A 25) (A 26) (A 28) (A 29) (A 27) (A 30) (A 31) (A 32) o (xs (n + 1)) (xs (n + 2)) (xs (n + 3)) (0 : Int32) R1 R2 R3 R4 R5 R6 R7 R8 R9 R10 R11 R12 R13 R14 R15 e1 _) kc_Law_hour ks_Law_hour tt_441 ⟨by decide, by decide⟩ rfl rfl hP hK hD hS hA [0, 1, 2, 3, 4, 5, 8, 6, 7, 9, 10, 12, 11, 13, 17, 14, 15, 18, 16, 47, 34, 35, 36, 37, 38, 39, 40, 41, 42, 43, 44, 45, 46, 48, 49, 50, 52, 53, 54, 51, 55, 56, 57, 88] [19, 20, 21, 22, 23, 24, 25, 26, 27, 28, 29, 30, 31, 32, 33, 58, 59, 60, 61, 62, 63, 64, 65, 66, 67, 68, 69, 70, 71, 72, 73, 74, 75, 76, 77, 78, 79, 80, 81, 82, 83, 84, 85, 86, 87] [45, 46, 47, 48, 49, 50, 52, 53, 51, 54, 55, 57, 56, 58, 60, 61, 63, 59, 62, 0, 1, 2, 3, 4, 5, 6, 7, 8, 9, 10, 11, 12, 13, 14, 65, 66, 67, 68, 69, 70, 71, 72, 73, 74, 75, 76, 77, 64, 78, 79, 80, 84, 81, 82, 83, 85, 86, 87, 15, 16, 17, 18, 19, 20, 21, 22, 23, 24, 25, 26, 27, 28, 29, 30, 31, 32, 33, 34, 35, 36, 37, 38, 39, 40, 41, 42, 43, 44, 88] rfl (by decide) rfl (by decide) (by decide) rfl (by decide) rfl hl.1 (Nat.le_of_ble_eq_true rfl) rfl nd_Law_law_476 ⟨by show _ ≤ 601024; omega, by show _ ≤ 7293034; omega⟩ (fun H locs hP hD hS => ?_)
    refine W.widen (k := 400 + n) (n := 20000 + 6 * n) (by omega) (by omega) ?_
    refine lv_istore (lv' := [(5, .int 0), (4, .int (nI n)), (3, .ref qo), (2, .ref (qm 0)), (1, .ref (qc 0)), (0, .ref b)]) hx hb nd_Law_law_479 hl (by decide) rfl (fun ls hl => ?_)
    refine lv_aload_n hx hb nd_Law_law_481 rfl (lv_at hl 3 rfl) ?_
    refine lv_aload_n hx hb nd_Law_law_482 rfl (lv_at hl 5 rfl) ?_
    refine lv_iload hx hb nd_Law_law_483 (lv_at hl 1 rfl) ?_
    refine lv_iconst (v := 1) hx hb nd_Law_law_485 (by decide) ?_
    refine lv_iadd hx hb nd_Law_law_486 ?_
    refine k_sld (n := n) (j := 1) hx hb hX hbl hbA hS (k_sidx rfl) (by omega) hL nd_Law_law_487 ?_
    refine lv_aload_n hx hb nd_Law_law_488 rfl (lv_at hl 5 rfl) ?_
    refine lv_iload hx hb nd_Law_law_489 (lv_at hl 1 rfl) ?_
    refine lv_iconst (v := 2) hx hb nd_Law_law_491 (by decide) ?_
    refine lv_iadd hx hb nd_Law_law_492 ?_
    refine k_sld (n := n) (j := 2) hx hb hX hbl hbA hS (k_sidx rfl) (by omega) hL nd_Law_law_493 ?_
    refine lv_aload_n hx hb nd_Law_law_494 rfl (lv_at hl 5 rfl) ?_
    refine lv_iload hx hb nd_Law_law_495 (lv_at hl 1 rfl) ?_
    refine lv_iconst (v := 3) hx hb nd_Law_law_497 (by decide) ?_
    refine lv_iadd hx hb nd_Law_law_498 ?_
    refine k_sld (n := n) (j := 3) hx hb hX hbl hbA hS (k_sidx rfl) (by omega) hL nd_Law_law_499 ?_
    refine k_wVI (wr := k_pick (wA qc qm qo ca (va_up I 0 R14) (va_up (va_up (va_up J 0 R1) 1 R3) 2 R6) (va_up (va_up (va_up (va_up (va_up (va_up (va_up A 8 R7) 24 R8) 29 R9) 28 R10) 30 R11) 31 R12) 32 R13) (va_up (va_up (va_up L 0 R2) 1 R4) 2 R5) i a l9 R15) [0, 1, 2, 3, 4, 5, 6, 7, 8, 9, 10, 11, 12, 13, 14, 15, 16, 17, 18, 19, 20, 21, 22, 23, 24, 25, 26, 27, 28, 29, 30, 31, 32, 33, 34, 35, 36, 37, 38, 39, 40, 41, 42, 43, 44, 45, 46, 47, 48, 49, 50, 51, 52, 53, 54, 55, 56, 57, 58, 59, 60, 61, 62, 65, 67, 85, 86, 87, 88]) (w2 := wA qc qm qo ca (va_up I 0 R14) (va_up (va_up (va_up J 0 R1) 1 R3) 2 R6) (va_up (va_up (va_up (va_up (va_up (va_up (va_up A 8 R7) 24 R8) 29 R9) 28 R10) 30 R11) 31 R12) 32 R13) (va_up (va_up (va_up L 0 R2) 1 R4) 2 R5) (va_up (va_up i 0 S1) 6 S7) (va_up (va_up (va_up a 11 S4) 16 S5) 15 S6) (va_up (va_up l9 0 S2) 2 S3) R15) (As := [.int (xs (n + 1)), .int (xs (n + 2)), .int (xs (n + 3))]) (rest := []) (r := S0) hx hb hml hown hts (cn_Model_hour l D ca (qm 0) (qm 1) (qm 2) (qm 3) (qm 4) (qm 5) (qm 6) (qm 7) (qm 8) (qm 9) (qm 10) (qm 11) (qm 12) (qm 13) (qm 14) (qm 15) (qm 16) (qm 17) (qm 18) (qm 19) (qm 20) (qm 21) (qm 22) (qm 23) (qm 24) (i 0) (i 1) (i 2) (i 3) (i 4) (i 5) (i 6) (i 7) (l9 0) (l9 2) (a 0) (a 1) (a 3) (a 2) (a 6) (a 5) (a 4) (a 7) (a 8) (a 11) (a 9) (a 10) (a 12) (a 13) (a 15) (a 16) (a 14) (xs (n + 1)) (xs (n + 2)) (xs (n + 3)) S0 S1 S2 S3 S4 S5 S6 S7 e2 _) kc_Model_hour kv_Model_hour tt_858 ⟨by decide, by decide⟩ rfl rfl hP hK hD hS hA [63, 64, 66, 68, 69, 71, 70, 74, 73, 72, 75, 76, 79, 77, 78, 80, 81, 83, 84, 82] [0, 1, 2, 3, 4, 5, 6, 7, 8, 9, 10, 11, 12, 13, 14, 15, 16, 17, 18, 19, 20, 21, 22, 23, 24, 25, 26, 27, 28, 29, 30, 31, 32, 33, 34, 35, 36, 37, 38, 39, 40, 41, 42, 43, 44, 45, 46, 47, 48, 49, 50, 51, 52, 53, 54, 55, 56, 57, 58, 59, 60, 61, 62, 65, 67, 85, 86, 87, 88] [0, 1, 2, 3, 4, 5, 6, 7, 8, 9, 10, 11, 12, 13, 14, 15, 16, 17, 18, 19, 20, 21, 22, 23, 24, 25, 26, 27, 28, 29, 30, 31, 32, 33, 34, 35, 36, 37, 38, 39, 40, 41, 42, 43, 44, 45, 46, 47, 48, 49, 50, 51, 52, 53, 54, 55, 56, 57, 58, 59, 60, 61, 62, 69, 70, 63, 71, 64, 72, 73, 75, 74, 78, 77, 76, 79, 80, 82, 83, 81, 84, 85, 88, 86, 87, 65, 66, 67, 68] rfl (by decide) rfl (by decide) (by decide) rfl (by decide) 0 rfl rfl rfl rfl hl.1 (Nat.le_of_ble_eq_true rfl) rfl nd_Law_law_500 ⟨by show _ ≤ 601024; omega, by show _ ≤ 7293034; omega⟩ (fun H locs hP hD hS => ?_)
    refine lv_istore (lv' := [(6, .int S0), (5, .int 0), (4, .int (nI n)), (3, .ref qo), (2, .ref (qm 0)), (1, .ref (qc 0)), (0, .ref b)]) hx hb nd_Law_law_503 hl (by decide) rfl (fun ls hl => ?_)
    refine lv_aload_n hx hb nd_Law_law_505 rfl (lv_at hl 4 rfl) ?_
    refine k_rVI (As := []) (rest := []) (r := S1) hx hb hml hown hts (cn_Model_thrown l D ca (qm 0) (qm 1) (qm 2) (qm 3) (qm 4) (qm 5) (qm 6) (qm 7) (qm 8) (qm 9) (qm 10) (qm 11) (qm 12) (qm 13) (qm 14) (qm 15) (qm 16) (qm 17) (qm 18) (qm 19) (qm 20) (qm 21) (qm 22) (qm 23) (qm 24) ((va_up (va_up i 0 S1) 6 S7) 0) ((va_up (va_up i 0 S1) 6 S7) 1) ((va_up (va_up i 0 S1) 6 S7) 2) ((va_up (va_up i 0 S1) 6 S7) 3) ((va_up (va_up i 0 S1) 6 S7) 4) ((va_up (va_up i 0 S1) 6 S7) 5) ((va_up (va_up i 0 S1) 6 S7) 6) ((va_up (va_up i 0 S1) 6 S7) 7) S1 rfl) kc_Model_thrown kv_Model_thrown tt_820 ⟨by decide, by decide⟩ rfl rfl hP hK [63] rfl 0 rfl rfl rfl rfl hl.1 (Nat.le_of_ble_eq_true rfl) rfl nd_Law_law_506 ⟨by show _ ≤ 601024; omega, by show _ ≤ 7293034; omega⟩ ?_
    refine lv_iload hx hb nd_Law_law_509 (lv_at hl 1 rfl) ?_
    refine lv_icmp_eq (tgt := 516) hx hb nd_Law_law_511 (by decide) (fun c1 => ?_) (fun c1 => ?_)
    rotate_left
    · exact absurd et c1
    refine lv_iload hx hb nd_Law_law_516 (lv_at hl 1 rfl) ?_
    refine lv_if_ne (tgt := 533) hx hb nd_Law_law_518 (by decide) (fun c2 => ?_) (fun c2 => ?_)
    · exact absurd rfl c2
    refine lv_aload_n hx hb nd_Law_law_521 rfl (lv_at hl 3 rfl) ?_
    refine lv_iconst (v := 0) hx hb nd_Law_law_522 (by decide) ?_
    refine va_lald hx hb hK hP 88 1 rfl rfl (by unfold vp_in; decide) nd_Law_law_523 ?_
    refine lv_iload hx hb nd_Law_law_524 (lv_at hl 0 rfl) ?_
    refine lv_i2l hx hb nd_Law_law_526 rfl ?_
    refine W.lcmp hx hb nd_Law_law_527 ?_
    refine lv_if_eq (tgt := 533) hx hb nd_Law_law_528 (by decide) (fun c3 => ?_) (fun c3 => ?_)
    rotate_left
    · exact absurd ea c3
    refine lv_goto (tgt := 1452) hx hb nd_Law_law_533 (by decide) ?_
    refine W.widen (k := 400 + n + 1) (n := 20000 + 6 * n + 6) (by omega) (by omega) ?_
    exact hnext _ _ _ _ _ _ _ _ _ _ _ hRel hP hD hS (lv_sub hl [2, 3, 4, 5, 6] rfl)
  ·
    refine lv_aload_n hx hb nd_Law_law_456 rfl (lv_at hl 3 rfl) ?_
    refine lv_aload_n hx hb nd_Law_law_457 rfl (lv_at hl 4 rfl) ?_
    refine lv_iload hx hb nd_Law_law_458 (lv_at hl 0 rfl) ?_
    refine lv_iconst (v := 1) hx hb nd_Law_law_460 (by decide) ?_
    refine lv_iadd hx hb nd_Law_law_461 ?_
    refine k_sld (n := n) (j := 1) hx hb hX hbl hbA hS (k_sidx rfl) (by omega) hL nd_Law_law_462 ?_
    refine lv_aload_n hx hb nd_Law_law_463 rfl (lv_at hl 4 rfl) ?_
    refine lv_iload hx hb nd_Law_law_464 (lv_at hl 0 rfl) ?_
    refine lv_iconst (v := 2) hx hb nd_Law_law_466 (by decide) ?_
    refine lv_iadd hx hb nd_Law_law_467 ?_
    refine k_sld (n := n) (j := 2) hx hb hX hbl hbA hS (k_sidx rfl) (by omega) hL nd_Law_law_468 ?_
    refine lv_aload_n hx hb nd_Law_law_469 rfl (lv_at hl 4 rfl) ?_
    refine lv_iload hx hb nd_Law_law_470 (lv_at hl 0 rfl) ?_
    refine lv_iconst (v := 3) hx hb nd_Law_law_472 (by decide) ?_
    refine lv_iadd hx hb nd_Law_law_473 ?_
    refine k_sld (n := n) (j := 3) hx hb hX hbl hbA hS (k_sidx rfl) (by omega) hL nd_Law_law_474 ?_
    refine lv_aload_n hx hb nd_Law_law_475 rfl (lv_at hl 1 rfl) ?_
    refine k_wSWX (wr := k_pick (wA qc qm qo ca I J A L i a l9 o) [19, 20, 21, 22, 23, 24, 25, 26, 27, 28, 29, 30, 31, 32, 33, 58, 59, 60, 61, 62, 63, 64, 65, 66, 67, 68, 69, 70, 71, 72, 73, 74, 75, 76, 77, 78, 79, 80, 81, 82, 83, 84, 85, 86, 87]) (w2 := wA qc qm qo ca I J A L i a l9 o) (As := [.ref (qc 0), .int (xs (n + 1)), .int (xs (n + 2)), .int (xs (n + 3)), .ref qo]) (rest := []) (r := 1) hx hb hml hown hts (hx_Law_hour_2 l hlt D ca (qc 0) (qc 1) (qc 19) (qc 34) (qc 47) (qc 48) (qc 58) (qc 2) (qc 5) (qc 9) (qc 13) (qc 3) (qc 4) (qc 6) (qc 7) (qc 8) (qc 10) (qc 11) (qc 12) (qc 14) (qc 15) (qc 16) (qc 17) (qc 18) (qc 35) (qc 38) (qc 41) (qc 44) (qc 36) (qc 37) (qc 39) (qc 40) (qc 42) (qc 43) (qc 45) (qc 46) (qc 49) (qc 50) (qc 51) (qc 52) (qc 53) (qc 54) (qc 55) (qc 56) (qc 57) qo (I 0) (I 1) (I 2) (J 0) (J 1) (L 0) (L 1) (I 3) (L 2) (A 0) (A 1) (I 4) (J 2) (I 5) (A 3) (A 2) (A 7) (A 4) (A 5) (A 8) (A 6) (A 24) (I 10) (A 16) (A 17) (I 11) (A 18) (A 19) (I 12) (A 20) (A 21) (I 13) (A 22) (A 23) (I 14) (A 25) (A 26) (A 28) (A 29) (A 27) (A 30) (A 31) (A 32) o (xs (n + 1)) (xs (n + 2)) (xs (n + 3)) e1 _) kc_Law_hour ks_Law_hour tt_441 ⟨by decide, by decide⟩ rfl rfl hP hK hD hS hA hev [0, 1, 2, 3, 4, 5, 8, 6, 7, 9, 10, 12, 11, 13, 17, 14, 15, 18, 16, 47, 34, 35, 36, 37, 38, 39, 40, 41, 42, 43, 44, 45, 46, 48, 49, 50, 52, 53, 54, 51, 55, 56, 57, 88] [19, 20, 21, 22, 23, 24, 25, 26, 27, 28, 29, 30, 31, 32, 33, 58, 59, 60, 61, 62, 63, 64, 65, 66, 67, 68, 69, 70, 71, 72, 73, 74, 75, 76, 77, 78, 79, 80, 81, 82, 83, 84, 85, 86, 87] [45, 46, 47, 48, 49, 50, 52, 53, 51, 54, 55, 57, 56, 58, 60, 61, 63, 59, 62, 0, 1, 2, 3, 4, 5, 6, 7, 8, 9, 10, 11, 12, 13, 14, 65, 66, 67, 68, 69, 70, 71, 72, 73, 74, 75, 76, 77, 64, 78, 79, 80, 84, 81, 82, 83, 85, 86, 87, 15, 16, 17, 18, 19, 20, 21, 22, 23, 24, 25, 26, 27, 28, 29, 30, 31, 32, 33, 34, 35, 36, 37, 38, 39, 40, 41, 42, 43, 44, 88] rfl (by decide) rfl (by decide) (by decide) rfl (by decide) rfl hl.1 (Nat.le_of_ble_eq_true rfl) rfl nd_Law_law_476 ⟨by show _ ≤ 601024; omega, by show _ ≤ 7293034; omega⟩ (fun H locs hP hD hS => ?_)
    refine W.widen (k := 400 + n + 1) (n := 20000 + 6 * n + 6) (by omega) (by omega) ?_
    refine lv_istore (lv' := [(5, .int 1), (4, .int (nI n)), (3, .ref qo), (2, .ref (qm 0)), (1, .ref (qc 0)), (0, .ref b)]) hx hb nd_Law_law_479 hl (by decide) rfl (fun ls hl => ?_)
    refine lv_aload_n hx hb nd_Law_law_481 rfl (lv_at hl 3 rfl) ?_
    refine lv_aload_n hx hb nd_Law_law_482 rfl (lv_at hl 5 rfl) ?_
    refine lv_iload hx hb nd_Law_law_483 (lv_at hl 1 rfl) ?_
    refine lv_iconst (v := 1) hx hb nd_Law_law_485 (by decide) ?_
    refine lv_iadd hx hb nd_Law_law_486 ?_
    refine k_sld (n := n) (j := 1) hx hb hX hbl hbA hS (k_sidx rfl) (by omega) hL nd_Law_law_487 ?_
    refine lv_aload_n hx hb nd_Law_law_488 rfl (lv_at hl 5 rfl) ?_
    refine lv_iload hx hb nd_Law_law_489 (lv_at hl 1 rfl) ?_
    refine lv_iconst (v := 2) hx hb nd_Law_law_491 (by decide) ?_
    refine lv_iadd hx hb nd_Law_law_492 ?_
    refine k_sld (n := n) (j := 2) hx hb hX hbl hbA hS (k_sidx rfl) (by omega) hL nd_Law_law_493 ?_
    refine lv_aload_n hx hb nd_Law_law_494 rfl (lv_at hl 5 rfl) ?_
    refine lv_iload hx hb nd_Law_law_495 (lv_at hl 1 rfl) ?_
    refine lv_iconst (v := 3) hx hb nd_Law_law_497 (by decide) ?_
    refine lv_iadd hx hb nd_Law_law_498 ?_
    refine k_sld (n := n) (j := 3) hx hb hX hbl hbA hS (k_sidx rfl) (by omega) hL nd_Law_law_499 ?_
    refine k_wVI (wr := k_pick (wA qc qm qo ca I J A L i a l9 o) [0, 1, 2, 3, 4, 5, 6, 7, 8, 9, 10, 11, 12, 13, 14, 15, 16, 17, 18, 19, 20, 21, 22, 23, 24, 25, 26, 27, 28, 29, 30, 31, 32, 33, 34, 35, 36, 37, 38, 39, 40, 41, 42, 43, 44, 45, 46, 47, 48, 49, 50, 51, 52, 53, 54, 55, 56, 57, 58, 59, 60, 61, 62, 65, 67, 85, 86, 87, 88]) (w2 := wA qc qm qo ca I J A L (va_up (va_up i 0 S1) 6 S7) (va_up (va_up (va_up a 11 S4) 16 S5) 15 S6) (va_up (va_up l9 0 S2) 2 S3) o) (As := [.int (xs (n + 1)), .int (xs (n + 2)), .int (xs (n + 3))]) (rest := []) (r := S0) hx hb hml hown hts (cn_Model_hour l D ca (qm 0) (qm 1) (qm 2) (qm 3) (qm 4) (qm 5) (qm 6) (qm 7) (qm 8) (qm 9) (qm 10) (qm 11) (qm 12) (qm 13) (qm 14) (qm 15) (qm 16) (qm 17) (qm 18) (qm 19) (qm 20) (qm 21) (qm 22) (qm 23) (qm 24) (i 0) (i 1) (i 2) (i 3) (i 4) (i 5) (i 6) (i 7) (l9 0) (l9 2) (a 0) (a 1) (a 3) (a 2) (a 6) (a 5) (a 4) (a 7) (a 8) (a 11) (a 9) (a 10) (a 12) (a 13) (a 15) (a 16) (a 14) (xs (n + 1)) (xs (n + 2)) (xs (n + 3)) S0 S1 S2 S3 S4 S5 S6 S7 e2 _) kc_Model_hour kv_Model_hour tt_858 ⟨by decide, by decide⟩ rfl rfl hP hK hD hS hA [63, 64, 66, 68, 69, 71, 70, 74, 73, 72, 75, 76, 79, 77, 78, 80, 81, 83, 84, 82] [0, 1, 2, 3, 4, 5, 6, 7, 8, 9, 10, 11, 12, 13, 14, 15, 16, 17, 18, 19, 20, 21, 22, 23, 24, 25, 26, 27, 28, 29, 30, 31, 32, 33, 34, 35, 36, 37, 38, 39, 40, 41, 42, 43, 44, 45, 46, 47, 48, 49, 50, 51, 52, 53, 54, 55, 56, 57, 58, 59, 60, 61, 62, 65, 67, 85, 86, 87, 88] [0, 1, 2, 3, 4, 5, 6, 7, 8, 9, 10, 11, 12, 13, 14, 15, 16, 17, 18, 19, 20, 21, 22, 23, 24, 25, 26, 27, 28, 29, 30, 31, 32, 33, 34, 35, 36, 37, 38, 39, 40, 41, 42, 43, 44, 45, 46, 47, 48, 49, 50, 51, 52, 53, 54, 55, 56, 57, 58, 59, 60, 61, 62, 69, 70, 63, 71, 64, 72, 73, 75, 74, 78, 77, 76, 79, 80, 82, 83, 81, 84, 85, 88, 86, 87, 65, 66, 67, 68] rfl (by decide) rfl (by decide) (by decide) rfl (by decide) 0 rfl rfl rfl rfl hl.1 (Nat.le_of_ble_eq_true rfl) rfl nd_Law_law_500 ⟨by show _ ≤ 601024; omega, by show _ ≤ 7293034; omega⟩ (fun H locs hP hD hS => ?_)
    refine lv_istore (lv' := [(6, .int S0), (5, .int 1), (4, .int (nI n)), (3, .ref qo), (2, .ref (qm 0)), (1, .ref (qc 0)), (0, .ref b)]) hx hb nd_Law_law_503 hl (by decide) rfl (fun ls hl => ?_)
    refine lv_aload_n hx hb nd_Law_law_505 rfl (lv_at hl 4 rfl) ?_
    refine k_rVI (As := []) (rest := []) (r := S1) hx hb hml hown hts (cn_Model_thrown l D ca (qm 0) (qm 1) (qm 2) (qm 3) (qm 4) (qm 5) (qm 6) (qm 7) (qm 8) (qm 9) (qm 10) (qm 11) (qm 12) (qm 13) (qm 14) (qm 15) (qm 16) (qm 17) (qm 18) (qm 19) (qm 20) (qm 21) (qm 22) (qm 23) (qm 24) ((va_up (va_up i 0 S1) 6 S7) 0) ((va_up (va_up i 0 S1) 6 S7) 1) ((va_up (va_up i 0 S1) 6 S7) 2) ((va_up (va_up i 0 S1) 6 S7) 3) ((va_up (va_up i 0 S1) 6 S7) 4) ((va_up (va_up i 0 S1) 6 S7) 5) ((va_up (va_up i 0 S1) 6 S7) 6) ((va_up (va_up i 0 S1) 6 S7) 7) S1 rfl) kc_Model_thrown kv_Model_thrown tt_820 ⟨by decide, by decide⟩ rfl rfl hP hK [63] rfl 0 rfl rfl rfl rfl hl.1 (Nat.le_of_ble_eq_true rfl) rfl nd_Law_law_506 ⟨by show _ ≤ 601024; omega, by show _ ≤ 7293034; omega⟩ ?_
    refine lv_iload hx hb nd_Law_law_509 (lv_at hl 1 rfl) ?_
    refine lv_icmp_eq (tgt := 516) hx hb nd_Law_law_511 (by decide) (fun c4 => ?_) (fun c4 => ?_)
    rotate_left
    · exact absurd et c4
    refine lv_iload hx hb nd_Law_law_516 (lv_at hl 1 rfl) ?_
    refine lv_if_ne (tgt := 533) hx hb nd_Law_law_518 (by decide) (fun c5 => ?_) (fun c5 => ?_)
    rotate_left
    · exact absurd c5 (by decide)
    refine lv_goto (tgt := 1452) hx hb nd_Law_law_533 (by decide) ?_
    refine W.widen (k := 400 + n + 1) (n := 20000 + 6 * n + 6) (by omega) (by omega) ?_
    exact hnext _ _ _ _ _ _ _ _ _ _ _ hRel hP hD hS (lv_sub hl [2, 3, 4, 5, 6] rfl)
  ·
    refine lv_aload_n hx hb nd_Law_law_456 rfl (lv_at hl 3 rfl) ?_
    refine lv_aload_n hx hb nd_Law_law_457 rfl (lv_at hl 4 rfl) ?_
    refine lv_iload hx hb nd_Law_law_458 (lv_at hl 0 rfl) ?_
    refine lv_iconst (v := 1) hx hb nd_Law_law_460 (by decide) ?_
    refine lv_iadd hx hb nd_Law_law_461 ?_
    refine k_sld (n := n) (j := 1) hx hb hX hbl hbA hS (k_sidx rfl) (by omega) hL nd_Law_law_462 ?_
    refine lv_aload_n hx hb nd_Law_law_463 rfl (lv_at hl 4 rfl) ?_
    refine lv_iload hx hb nd_Law_law_464 (lv_at hl 0 rfl) ?_
    refine lv_iconst (v := 2) hx hb nd_Law_law_466 (by decide) ?_
    refine lv_iadd hx hb nd_Law_law_467 ?_
    refine k_sld (n := n) (j := 2) hx hb hX hbl hbA hS (k_sidx rfl) (by omega) hL nd_Law_law_468 ?_
    refine lv_aload_n hx hb nd_Law_law_469 rfl (lv_at hl 4 rfl) ?_
    refine lv_iload hx hb nd_Law_law_470 (lv_at hl 0 rfl) ?_
    refine lv_iconst (v := 3) hx hb nd_Law_law_472 (by decide) ?_
    refine lv_iadd hx hb nd_Law_law_473 ?_
    refine k_sld (n := n) (j := 3) hx hb hX hbl hbA hS (k_sidx rfl) (by omega) hL nd_Law_law_474 ?_
    refine lv_aload_n hx hb nd_Law_law_475 rfl (lv_at hl 1 rfl) ?_
    refine k_wSWX (wr := k_pick (wA qc qm qo ca I J A L i a l9 o) [19, 20, 21, 22, 23, 24, 25, 26, 27, 28, 29, 30, 31, 32, 33, 58, 59, 60, 61, 62, 63, 64, 65, 66, 67, 68, 69, 70, 71, 72, 73, 74, 75, 76, 77, 78, 79, 80, 81, 82, 83, 84, 85, 86, 87]) (w2 := wA qc qm qo ca I J A L i a l9 o) (As := [.ref (qc 0), .int (xs (n + 1)), .int (xs (n + 2)), .int (xs (n + 3)), .ref qo]) (rest := []) (r := 2) hx hb hml hown hts (hx_Law_hour_3 l hlt D ca (qc 0) (qc 1) (qc 19) (qc 34) (qc 47) (qc 48) (qc 58) (qc 2) (qc 5) (qc 9) (qc 13) (qc 3) (qc 4) (qc 6) (qc 7) (qc 8) (qc 10) (qc 11) (qc 12) (qc 14) (qc 15) (qc 16) (qc 17) (qc 18) (qc 35) (qc 38) (qc 41) (qc 44) (qc 36) (qc 37) (qc 39) (qc 40) (qc 42) (qc 43) (qc 45) (qc 46) (qc 49) (qc 50) (qc 51) (qc 52) (qc 53) (qc 54) (qc 55) (qc 56) (qc 57) qo (I 0) (I 1) (I 2) (J 0) (J 1) (L 0) (L 1) (I 3) (L 2) (A 0) (A 1) (I 4) (J 2) (I 5) (A 3) (A 2) (A 7) (A 4) (A 5) (A 8) (A 6) (A 24) (I 10) (A 16) (A 17) (I 11) (A 18) (A 19) (I 12) (A 20) (A 21) (I 13) (A 22) (A 23) (I 14) (A 25) (A 26) (A 28) (A 29) (A 27) (A 30) (A 31) (A 32) o (xs (n + 1)) (xs (n + 2)) (xs (n + 3)) e1 _) kc_Law_hour ks_Law_hour tt_441 ⟨by decide, by decide⟩ rfl rfl hP hK hD hS hA hev [0, 1, 2, 3, 4, 5, 8, 6, 7, 9, 10, 12, 11, 13, 17, 14, 15, 18, 16, 47, 34, 35, 36, 37, 38, 39, 40, 41, 42, 43, 44, 45, 46, 48, 49, 50, 52, 53, 54, 51, 55, 56, 57, 88] [19, 20, 21, 22, 23, 24, 25, 26, 27, 28, 29, 30, 31, 32, 33, 58, 59, 60, 61, 62, 63, 64, 65, 66, 67, 68, 69, 70, 71, 72, 73, 74, 75, 76, 77, 78, 79, 80, 81, 82, 83, 84, 85, 86, 87] [45, 46, 47, 48, 49, 50, 52, 53, 51, 54, 55, 57, 56, 58, 60, 61, 63, 59, 62, 0, 1, 2, 3, 4, 5, 6, 7, 8, 9, 10, 11, 12, 13, 14, 65, 66, 67, 68, 69, 70, 71, 72, 73, 74, 75, 76, 77, 64, 78, 79, 80, 84, 81, 82, 83, 85, 86, 87, 15, 16, 17, 18, 19, 20, 21, 22, 23, 24, 25, 26, 27, 28, 29, 30, 31, 32, 33, 34, 35, 36, 37, 38, 39, 40, 41, 42, 43, 44, 88] rfl (by decide) rfl (by decide) (by decide) rfl (by decide) rfl hl.1 (Nat.le_of_ble_eq_true rfl) rfl nd_Law_law_476 ⟨by show _ ≤ 601024; omega, by show _ ≤ 7293034; omega⟩ (fun H locs hP hD hS => ?_)
    refine W.widen (k := 400 + n + 1) (n := 20000 + 6 * n + 6) (by omega) (by omega) ?_
    refine lv_istore (lv' := [(5, .int 2), (4, .int (nI n)), (3, .ref qo), (2, .ref (qm 0)), (1, .ref (qc 0)), (0, .ref b)]) hx hb nd_Law_law_479 hl (by decide) rfl (fun ls hl => ?_)
    refine lv_aload_n hx hb nd_Law_law_481 rfl (lv_at hl 3 rfl) ?_
    refine lv_aload_n hx hb nd_Law_law_482 rfl (lv_at hl 5 rfl) ?_
    refine lv_iload hx hb nd_Law_law_483 (lv_at hl 1 rfl) ?_
    refine lv_iconst (v := 1) hx hb nd_Law_law_485 (by decide) ?_
    refine lv_iadd hx hb nd_Law_law_486 ?_
    refine k_sld (n := n) (j := 1) hx hb hX hbl hbA hS (k_sidx rfl) (by omega) hL nd_Law_law_487 ?_
    refine lv_aload_n hx hb nd_Law_law_488 rfl (lv_at hl 5 rfl) ?_
    refine lv_iload hx hb nd_Law_law_489 (lv_at hl 1 rfl) ?_
    refine lv_iconst (v := 2) hx hb nd_Law_law_491 (by decide) ?_
    refine lv_iadd hx hb nd_Law_law_492 ?_
    refine k_sld (n := n) (j := 2) hx hb hX hbl hbA hS (k_sidx rfl) (by omega) hL nd_Law_law_493 ?_
    refine lv_aload_n hx hb nd_Law_law_494 rfl (lv_at hl 5 rfl) ?_
    refine lv_iload hx hb nd_Law_law_495 (lv_at hl 1 rfl) ?_
    refine lv_iconst (v := 3) hx hb nd_Law_law_497 (by decide) ?_
    refine lv_iadd hx hb nd_Law_law_498 ?_
    refine k_sld (n := n) (j := 3) hx hb hX hbl hbA hS (k_sidx rfl) (by omega) hL nd_Law_law_499 ?_
    refine k_wVI (wr := k_pick (wA qc qm qo ca I J A L i a l9 o) [0, 1, 2, 3, 4, 5, 6, 7, 8, 9, 10, 11, 12, 13, 14, 15, 16, 17, 18, 19, 20, 21, 22, 23, 24, 25, 26, 27, 28, 29, 30, 31, 32, 33, 34, 35, 36, 37, 38, 39, 40, 41, 42, 43, 44, 45, 46, 47, 48, 49, 50, 51, 52, 53, 54, 55, 56, 57, 58, 59, 60, 61, 62, 65, 67, 85, 86, 87, 88]) (w2 := wA qc qm qo ca I J A L (va_up (va_up i 0 S1) 6 S7) (va_up (va_up (va_up a 11 S4) 16 S5) 15 S6) (va_up (va_up l9 0 S2) 2 S3) o) (As := [.int (xs (n + 1)), .int (xs (n + 2)), .int (xs (n + 3))]) (rest := []) (r := S0) hx hb hml hown hts (cn_Model_hour l D ca (qm 0) (qm 1) (qm 2) (qm 3) (qm 4) (qm 5) (qm 6) (qm 7) (qm 8) (qm 9) (qm 10) (qm 11) (qm 12) (qm 13) (qm 14) (qm 15) (qm 16) (qm 17) (qm 18) (qm 19) (qm 20) (qm 21) (qm 22) (qm 23) (qm 24) (i 0) (i 1) (i 2) (i 3) (i 4) (i 5) (i 6) (i 7) (l9 0) (l9 2) (a 0) (a 1) (a 3) (a 2) (a 6) (a 5) (a 4) (a 7) (a 8) (a 11) (a 9) (a 10) (a 12) (a 13) (a 15) (a 16) (a 14) (xs (n + 1)) (xs (n + 2)) (xs (n + 3)) S0 S1 S2 S3 S4 S5 S6 S7 e2 _) kc_Model_hour kv_Model_hour tt_858 ⟨by decide, by decide⟩ rfl rfl hP hK hD hS hA [63, 64, 66, 68, 69, 71, 70, 74, 73, 72, 75, 76, 79, 77, 78, 80, 81, 83, 84, 82] [0, 1, 2, 3, 4, 5, 6, 7, 8, 9, 10, 11, 12, 13, 14, 15, 16, 17, 18, 19, 20, 21, 22, 23, 24, 25, 26, 27, 28, 29, 30, 31, 32, 33, 34, 35, 36, 37, 38, 39, 40, 41, 42, 43, 44, 45, 46, 47, 48, 49, 50, 51, 52, 53, 54, 55, 56, 57, 58, 59, 60, 61, 62, 65, 67, 85, 86, 87, 88] [0, 1, 2, 3, 4, 5, 6, 7, 8, 9, 10, 11, 12, 13, 14, 15, 16, 17, 18, 19, 20, 21, 22, 23, 24, 25, 26, 27, 28, 29, 30, 31, 32, 33, 34, 35, 36, 37, 38, 39, 40, 41, 42, 43, 44, 45, 46, 47, 48, 49, 50, 51, 52, 53, 54, 55, 56, 57, 58, 59, 60, 61, 62, 69, 70, 63, 71, 64, 72, 73, 75, 74, 78, 77, 76, 79, 80, 82, 83, 81, 84, 85, 88, 86, 87, 65, 66, 67, 68] rfl (by decide) rfl (by decide) (by decide) rfl (by decide) 0 rfl rfl rfl rfl hl.1 (Nat.le_of_ble_eq_true rfl) rfl nd_Law_law_500 ⟨by show _ ≤ 601024; omega, by show _ ≤ 7293034; omega⟩ (fun H locs hP hD hS => ?_)
    refine lv_istore (lv' := [(6, .int S0), (5, .int 2), (4, .int (nI n)), (3, .ref qo), (2, .ref (qm 0)), (1, .ref (qc 0)), (0, .ref b)]) hx hb nd_Law_law_503 hl (by decide) rfl (fun ls hl => ?_)
    refine lv_aload_n hx hb nd_Law_law_505 rfl (lv_at hl 4 rfl) ?_
    refine k_rVI (As := []) (rest := []) (r := S1) hx hb hml hown hts (cn_Model_thrown l D ca (qm 0) (qm 1) (qm 2) (qm 3) (qm 4) (qm 5) (qm 6) (qm 7) (qm 8) (qm 9) (qm 10) (qm 11) (qm 12) (qm 13) (qm 14) (qm 15) (qm 16) (qm 17) (qm 18) (qm 19) (qm 20) (qm 21) (qm 22) (qm 23) (qm 24) ((va_up (va_up i 0 S1) 6 S7) 0) ((va_up (va_up i 0 S1) 6 S7) 1) ((va_up (va_up i 0 S1) 6 S7) 2) ((va_up (va_up i 0 S1) 6 S7) 3) ((va_up (va_up i 0 S1) 6 S7) 4) ((va_up (va_up i 0 S1) 6 S7) 5) ((va_up (va_up i 0 S1) 6 S7) 6) ((va_up (va_up i 0 S1) 6 S7) 7) S1 rfl) kc_Model_thrown kv_Model_thrown tt_820 ⟨by decide, by decide⟩ rfl rfl hP hK [63] rfl 0 rfl rfl rfl rfl hl.1 (Nat.le_of_ble_eq_true rfl) rfl nd_Law_law_506 ⟨by show _ ≤ 601024; omega, by show _ ≤ 7293034; omega⟩ ?_
    refine lv_iload hx hb nd_Law_law_509 (lv_at hl 1 rfl) ?_
    refine lv_icmp_eq (tgt := 516) hx hb nd_Law_law_511 (by decide) (fun c6 => ?_) (fun c6 => ?_)
    rotate_left
    · exact absurd et c6
    refine lv_iload hx hb nd_Law_law_516 (lv_at hl 1 rfl) ?_
    refine lv_if_ne (tgt := 533) hx hb nd_Law_law_518 (by decide) (fun c7 => ?_) (fun c7 => ?_)
    rotate_left
    · exact absurd c7 (by decide)
    refine lv_goto (tgt := 1452) hx hb nd_Law_law_533 (by decide) ?_
    refine W.widen (k := 400 + n + 1) (n := 20000 + 6 * n + 6) (by omega) (by omega) ?_
    exact hnext _ _ _ _ _ _ _ _ _ _ _ hRel hP hD hS (lv_sub hl [2, 3, 4, 5, 6] rfl)
set_option maxHeartbeats 8000000 in
set_option maxRecDepth 100000 in
theorem lc_degrees {p : Program} {l : Launch} {e : Env} {s : State} {m : MethodId} {below : List Frame} {meth : Method} {c : Code} {D : va_G} {ca : Nat → ClassId} {b Ls : Nat} {xs : Nat → Int32} (C0 : lw_At p s m meth c b Ls xs) (hL : Ls ≤ 2560) (hlt : l.stackTraces = false) (hev0 : xt_ev s s.heap) (hK : va_K D vwCl (tyG ca) s) {Rel : (Nat → Int32) → (Nat → Int64) → (Nat → Nat → Int32) → (Nat → Nat → Int64) → (Nat → Int32) → (Nat → Nat → Int32) → (Nat → Nat → Int64) → Prop} {qc qm : Nat → Nat} {qo : Nat} {I : Nat → Int32} {J : Nat → Int64} {A : Nat → Nat → Int32} {L : Nat → Nat → Int64} {i : Nat → Int32} {a : Nat → Nat → Int32} {l9 : Nat → Nat → Int64} {o : Nat → Int64} {n : Nat} (hn : n + 5 ≤ Ls) {H : Heap} {locs : List Loc} {ls : Array Slot} (hP : va_P D vwCl (wA qc qm qo ca I J A L i a l9 o) H) (hD : va_D (fun q : Nat => s.heap.size ≤ q) (wA qc qm qo ca I J A L i a l9 o)) (hS : va_S (fun q : Nat => s.heap.size ≤ q) s.heap H locs) (hl : lv_has ls 8 [(4, .int (nI n)), (3, .ref qo), (2, .ref (qm 0)), (1, .ref (qc 0)), (0, .ref b)]) (hst : st_degrees Rel I J A L i a l9 o ) (hnext : ∀ (I : Nat → Int32) (J : Nat → Int64) (A : Nat → Nat → Int32) (L : Nat → Nat → Int64) (i : Nat → Int32) (a : Nat → Nat → Int32) (l9 : Nat → Nat → Int64) (o : Nat → Int64) (H : Heap) (locs : List Loc) (ls : Array Slot), Rel I J A L i a l9 → va_P D vwCl (wA qc qm qo ca I J A L i a l9 o) H → va_D (fun q : Nat => s.heap.size ≤ q) (wA qc qm qo ca I J A L i a l9 o) → va_S (fun q : Nat => s.heap.size ≤ q) s.heap H locs → lv_has ls 8 [(4, .int (nI n)), (3, .ref qo), (2, .ref (qm 0)), (1, .ref (qc 0)), (0, .ref b)] → W p l e room_1 s m #[Value.ref b] below meth c H locs (400 + n + 1) (20000 + 6 * n + 6) (lw_Z below #[Value.ref b] s) (F0 m 1452 ls [])) : W p l e room_1 s m #[Value.ref b] below meth c H locs (400 + n) (20000 + 6 * n) (lw_Z below #[Value.ref b] s) (F0 m 536 ls []) := by
  obtain ⟨hx, hb, hr, hml, hown, hts0, hX, hbl, hlocks, hgv⟩ := C0
  have hts : ∀ w ∈ TT, w.before #[Value.ref b] s = true := fun w h => hts0 w (List.mem_filter.mp h).1
  have hA : ∀ q : Nat, s.heap.size ≤ q → (fun q : Nat => s.heap.size ≤ q) q := fun _ h => h
  have hbA : ¬ (fun q : Nat => s.heap.size ≤ q) b := Nat.not_le.mpr hbl
  have hown : s.vm.findClass nR_Law = some m.cls := hown
  have hev : xt_ev s H := k_evH hev0 hS
  unfold st_degrees at hst
  obtain ⟨R0, S0, S1, e1, e2, et, hRel⟩ := hst
  refine lv_aload_n hx hb nd_Law_law_536 rfl (lv_at hl 3 rfl) ?_
  refine k_rVI (As := []) (rest := []) (r := R0) hx hb hml hown hts (cn_Room_degrees l D ca (qc 0) (qc 1) (qc 19) (qc 34) (qc 47) (qc 48) (qc 58) (qc 2) (qc 5) (qc 9) (qc 13) (qc 3) (qc 4) (I 0) (I 1) (I 2) (J 0) (J 1) R0 e1) kc_Room_degrees kv_Room_degrees tt_244 ⟨by decide, by decide⟩ rfl rfl hP hK [0, 1, 2] rfl 0 rfl rfl rfl rfl hl.1 (Nat.le_of_ble_eq_true rfl) rfl nd_Law_law_537 ⟨by show _ ≤ 601024; omega, by show _ ≤ 7293034; omega⟩ ?_
  refine lv_aload_n hx hb nd_Law_law_540 rfl (lv_at hl 2 rfl) ?_
  refine k_wVI (wr := k_pick (wA qc qm qo ca I J A L i a l9 o) [0, 1, 2, 3, 4, 5, 6, 7, 8, 9, 10, 11, 12, 13, 14, 15, 16, 17, 18, 19, 20, 21, 22, 23, 24, 25, 26, 27, 28, 29, 30, 31, 32, 33, 34, 35, 36, 37, 38, 39, 40, 41, 42, 43, 44, 45, 46, 47, 48, 49, 50, 51, 52, 53, 54, 55, 56, 57, 58, 59, 60, 61, 62, 65, 66, 67, 68, 69, 70, 71, 72, 73, 74, 75, 76, 77, 78, 79, 80, 81, 82, 83, 84, 85, 86, 87, 88]) (w2 := wA qc qm qo ca I J A L (va_up i 0 S1) a l9 o) (As := []) (rest := [.int R0]) (r := S0) hx hb hml hown hts (cn_Model_degrees l D ca (qm 0) (qm 1) (qm 2) (qm 3) (qm 4) (qm 5) (qm 6) (qm 7) (qm 8) (qm 9) (qm 10) (qm 11) (qm 12) (qm 13) (qm 14) (qm 15) (qm 16) (qm 17) (qm 18) (qm 19) (qm 20) (qm 21) (qm 22) (qm 23) (qm 24) (i 0) (i 1) (i 2) (i 3) (i 4) (i 5) (i 6) (i 7) (l9 0) S0 S1 e2 _) kc_Model_degrees kv_Model_degrees tt_920 ⟨by decide, by decide⟩ rfl rfl hP hK hD hS hA [63, 64] [0, 1, 2, 3, 4, 5, 6, 7, 8, 9, 10, 11, 12, 13, 14, 15, 16, 17, 18, 19, 20, 21, 22, 23, 24, 25, 26, 27, 28, 29, 30, 31, 32, 33, 34, 35, 36, 37, 38, 39, 40, 41, 42, 43, 44, 45, 46, 47, 48, 49, 50, 51, 52, 53, 54, 55, 56, 57, 58, 59, 60, 61, 62, 65, 66, 67, 68, 69, 70, 71, 72, 73, 74, 75, 76, 77, 78, 79, 80, 81, 82, 83, 84, 85, 86, 87, 88] [0, 1, 2, 3, 4, 5, 6, 7, 8, 9, 10, 11, 12, 13, 14, 15, 16, 17, 18, 19, 20, 21, 22, 23, 24, 25, 26, 27, 28, 29, 30, 31, 32, 33, 34, 35, 36, 37, 38, 39, 40, 41, 42, 43, 44, 45, 46, 47, 48, 49, 50, 51, 52, 53, 54, 55, 56, 57, 58, 59, 60, 61, 62, 87, 88, 63, 64, 65, 66, 67, 68, 69, 70, 71, 72, 73, 74, 75, 76, 77, 78, 79, 80, 81, 82, 83, 84, 85, 86] rfl (by decide) rfl (by decide) (by decide) rfl (by decide) 0 rfl rfl rfl rfl hl.1 (Nat.le_of_ble_eq_true rfl) rfl nd_Law_law_541 ⟨by show _ ≤ 601024; omega, by show _ ≤ 7293034; omega⟩ (fun H locs hP hD hS => ?_)
  refine lv_icmp_eq (tgt := 1452) hx hb nd_Law_law_544 (by decide) (fun c1 => ?_) (fun c1 => ?_)
  rotate_left
  · exact absurd et c1
  refine W.widen (k := 400 + n + 1) (n := 20000 + 6 * n + 6) (by omega) (by omega) ?_
  exact hnext _ _ _ _ _ _ _ _ _ _ _ hRel hP hD hS (lv_sub hl [0, 1, 2, 3, 4] rfl)
set_option maxHeartbeats 8000000 in
set_option maxRecDepth 100000 in
theorem lc_damp {p : Program} {l : Launch} {e : Env} {s : State} {m : MethodId} {below : List Frame} {meth : Method} {c : Code} {D : va_G} {ca : Nat → ClassId} {b Ls : Nat} {xs : Nat → Int32} (C0 : lw_At p s m meth c b Ls xs) (hL : Ls ≤ 2560) (hlt : l.stackTraces = false) (hev0 : xt_ev s s.heap) (hK : va_K D vwCl (tyG ca) s) {Rel : (Nat → Int32) → (Nat → Int64) → (Nat → Nat → Int32) → (Nat → Nat → Int64) → (Nat → Int32) → (Nat → Nat → Int32) → (Nat → Nat → Int64) → Prop} {qc qm : Nat → Nat} {qo : Nat} {I : Nat → Int32} {J : Nat → Int64} {A : Nat → Nat → Int32} {L : Nat → Nat → Int64} {i : Nat → Int32} {a : Nat → Nat → Int32} {l9 : Nat → Nat → Int64} {o : Nat → Int64} {n : Nat} (hn : n + 5 ≤ Ls) {H : Heap} {locs : List Loc} {ls : Array Slot} (hP : va_P D vwCl (wA qc qm qo ca I J A L i a l9 o) H) (hD : va_D (fun q : Nat => s.heap.size ≤ q) (wA qc qm qo ca I J A L i a l9 o)) (hS : va_S (fun q : Nat => s.heap.size ≤ q) s.heap H locs) (hl : lv_has ls 8 [(4, .int (nI n)), (3, .ref qo), (2, .ref (qm 0)), (1, .ref (qc 0)), (0, .ref b)]) (hst : st_damp Rel I J A L i a l9 o ) (hnext : ∀ (I : Nat → Int32) (J : Nat → Int64) (A : Nat → Nat → Int32) (L : Nat → Nat → Int64) (i : Nat → Int32) (a : Nat → Nat → Int32) (l9 : Nat → Nat → Int64) (o : Nat → Int64) (H : Heap) (locs : List Loc) (ls : Array Slot), Rel I J A L i a l9 → va_P D vwCl (wA qc qm qo ca I J A L i a l9 o) H → va_D (fun q : Nat => s.heap.size ≤ q) (wA qc qm qo ca I J A L i a l9 o) → va_S (fun q : Nat => s.heap.size ≤ q) s.heap H locs → lv_has ls 8 [(4, .int (nI n)), (3, .ref qo), (2, .ref (qm 0)), (1, .ref (qc 0)), (0, .ref b)] → W p l e room_1 s m #[Value.ref b] below meth c H locs (400 + n + 1) (20000 + 6 * n + 6) (lw_Z below #[Value.ref b] s) (F0 m 1452 ls [])) : W p l e room_1 s m #[Value.ref b] below meth c H locs (400 + n) (20000 + 6 * n) (lw_Z below #[Value.ref b] s) (F0 m 549 ls []) := by
  obtain ⟨hx, hb, hr, hml, hown, hts0, hX, hbl, hlocks, hgv⟩ := C0
  have hts : ∀ w ∈ TT, w.before #[Value.ref b] s = true := fun w h => hts0 w (List.mem_filter.mp h).1
  have hA : ∀ q : Nat, s.heap.size ≤ q → (fun q : Nat => s.heap.size ≤ q) q := fun _ h => h
  have hbA : ¬ (fun q : Nat => s.heap.size ≤ q) b := Nat.not_le.mpr hbl
  have hown : s.vm.findClass nR_Law = some m.cls := hown
  have hev : xt_ev s H := k_evH hev0 hS
  unfold st_damp at hst
  obtain ⟨R0, S0, S1, e1, e2, et, hRel⟩ := hst
  refine lv_aload_n hx hb nd_Law_law_549 rfl (lv_at hl 3 rfl) ?_
  refine k_rVI (As := []) (rest := []) (r := R0) hx hb hml hown hts (cn_Room_damp l D ca (qc 0) (qc 1) (qc 19) (qc 34) (qc 47) (qc 48) (qc 58) (qc 2) (qc 5) (qc 9) (qc 13) (qc 3) (qc 4) (I 0) (I 1) (I 2) (J 0) (J 1) R0 e1) kc_Room_damp kv_Room_damp tt_258 ⟨by decide, by decide⟩ rfl rfl hP hK [0, 1, 2] rfl 0 rfl rfl rfl rfl hl.1 (Nat.le_of_ble_eq_true rfl) rfl nd_Law_law_550 ⟨by show _ ≤ 601024; omega, by show _ ≤ 7293034; omega⟩ ?_
  refine lv_aload_n hx hb nd_Law_law_553 rfl (lv_at hl 2 rfl) ?_
  refine k_wVI (wr := k_pick (wA qc qm qo ca I J A L i a l9 o) [0, 1, 2, 3, 4, 5, 6, 7, 8, 9, 10, 11, 12, 13, 14, 15, 16, 17, 18, 19, 20, 21, 22, 23, 24, 25, 26, 27, 28, 29, 30, 31, 32, 33, 34, 35, 36, 37, 38, 39, 40, 41, 42, 43, 44, 45, 46, 47, 48, 49, 50, 51, 52, 53, 54, 55, 56, 57, 58, 59, 60, 61, 62, 65, 66, 67, 68, 69, 70, 71, 72, 73, 74, 75, 76, 77, 78, 79, 80, 81, 82, 83, 84, 85, 86, 87, 88]) (w2 := wA qc qm qo ca I J A L (va_up i 0 S1) a l9 o) (As := []) (rest := [.int R0]) (r := S0) hx hb hml hown hts (cn_Model_damp l D ca (qm 0) (qm 1) (qm 2) (qm 3) (qm 4) (qm 5) (qm 6) (qm 7) (qm 8) (qm 9) (qm 10) (qm 11) (qm 12) (qm 13) (qm 14) (qm 15) (qm 16) (qm 17) (qm 18) (qm 19) (qm 20) (qm 21) (qm 22) (qm 23) (qm 24) (i 0) (i 1) (i 2) (i 3) (i 4) (i 5) (i 6) (i 7) (l9 0) S0 S1 e2 _) kc_Model_damp kv_Model_damp tt_924 ⟨by decide, by decide⟩ rfl rfl hP hK hD hS hA [63, 64] [0, 1, 2, 3, 4, 5, 6, 7, 8, 9, 10, 11, 12, 13, 14, 15, 16, 17, 18, 19, 20, 21, 22, 23, 24, 25, 26, 27, 28, 29, 30, 31, 32, 33, 34, 35, 36, 37, 38, 39, 40, 41, 42, 43, 44, 45, 46, 47, 48, 49, 50, 51, 52, 53, 54, 55, 56, 57, 58, 59, 60, 61, 62, 65, 66, 67, 68, 69, 70, 71, 72, 73, 74, 75, 76, 77, 78, 79, 80, 81, 82, 83, 84, 85, 86, 87, 88] [0, 1, 2, 3, 4, 5, 6, 7, 8, 9, 10, 11, 12, 13, 14, 15, 16, 17, 18, 19, 20, 21, 22, 23, 24, 25, 26, 27, 28, 29, 30, 31, 32, 33, 34, 35, 36, 37, 38, 39, 40, 41, 42, 43, 44, 45, 46, 47, 48, 49, 50, 51, 52, 53, 54, 55, 56, 57, 58, 59, 60, 61, 62, 87, 88, 63, 64, 65, 66, 67, 68, 69, 70, 71, 72, 73, 74, 75, 76, 77, 78, 79, 80, 81, 82, 83, 84, 85, 86] rfl (by decide) rfl (by decide) (by decide) rfl (by decide) 0 rfl rfl rfl rfl hl.1 (Nat.le_of_ble_eq_true rfl) rfl nd_Law_law_554 ⟨by show _ ≤ 601024; omega, by show _ ≤ 7293034; omega⟩ (fun H locs hP hD hS => ?_)
  refine lv_icmp_eq (tgt := 1452) hx hb nd_Law_law_557 (by decide) (fun c1 => ?_) (fun c1 => ?_)
  rotate_left
  · exact absurd et c1
  refine W.widen (k := 400 + n + 1) (n := 20000 + 6 * n + 6) (by omega) (by omega) ?_
  exact hnext _ _ _ _ _ _ _ _ _ _ _ hRel hP hD hS (lv_sub hl [0, 1, 2, 3, 4] rfl)
set_option maxHeartbeats 8000000 in
set_option maxRecDepth 100000 in
theorem lc_layer {p : Program} {l : Launch} {e : Env} {s : State} {m : MethodId} {below : List Frame} {meth : Method} {c : Code} {D : va_G} {ca : Nat → ClassId} {b Ls : Nat} {xs : Nat → Int32} (C0 : lw_At p s m meth c b Ls xs) (hL : Ls ≤ 2560) (hlt : l.stackTraces = false) (hev0 : xt_ev s s.heap) (hK : va_K D vwCl (tyG ca) s) {Rel : (Nat → Int32) → (Nat → Int64) → (Nat → Nat → Int32) → (Nat → Nat → Int64) → (Nat → Int32) → (Nat → Nat → Int32) → (Nat → Nat → Int64) → Prop} {qc qm : Nat → Nat} {qo : Nat} {I : Nat → Int32} {J : Nat → Int64} {A : Nat → Nat → Int32} {L : Nat → Nat → Int64} {i : Nat → Int32} {a : Nat → Nat → Int32} {l9 : Nat → Nat → Int64} {o : Nat → Int64} {n : Nat} (hn : n + 5 ≤ Ls) {H : Heap} {locs : List Loc} {ls : Array Slot} (hP : va_P D vwCl (wA qc qm qo ca I J A L i a l9 o) H) (hD : va_D (fun q : Nat => s.heap.size ≤ q) (wA qc qm qo ca I J A L i a l9 o)) (hS : va_S (fun q : Nat => s.heap.size ≤ q) s.heap H locs) (hl : lv_has ls 8 [(4, .int (nI n)), (3, .ref qo), (2, .ref (qm 0)), (1, .ref (qc 0)), (0, .ref b)]) (hst : st_layer Rel I J A L i a l9 o (xs (n + 1))) (hnext : ∀ (I : Nat → Int32) (J : Nat → Int64) (A : Nat → Nat → Int32) (L : Nat → Nat → Int64) (i : Nat → Int32) (a : Nat → Nat → Int32) (l9 : Nat → Nat → Int64) (o : Nat → Int64) (H : Heap) (locs : List Loc) (ls : Array Slot), Rel I J A L i a l9 → va_P D vwCl (wA qc qm qo ca I J A L i a l9 o) H → va_D (fun q : Nat => s.heap.size ≤ q) (wA qc qm qo ca I J A L i a l9 o) → va_S (fun q : Nat => s.heap.size ≤ q) s.heap H locs → lv_has ls 8 [(4, .int (nI n)), (3, .ref qo), (2, .ref (qm 0)), (1, .ref (qc 0)), (0, .ref b)] → W p l e room_1 s m #[Value.ref b] below meth c H locs (400 + n + 1) (20000 + 6 * n + 6) (lw_Z below #[Value.ref b] s) (F0 m 1452 ls [])) : W p l e room_1 s m #[Value.ref b] below meth c H locs (400 + n) (20000 + 6 * n) (lw_Z below #[Value.ref b] s) (F0 m 562 ls []) := by
  obtain ⟨hx, hb, hr, hml, hown, hts0, hX, hbl, hlocks, hgv⟩ := C0
  have hts : ∀ w ∈ TT, w.before #[Value.ref b] s = true := fun w h => hts0 w (List.mem_filter.mp h).1
  have hA : ∀ q : Nat, s.heap.size ≤ q → (fun q : Nat => s.heap.size ≤ q) q := fun _ h => h
  have hbA : ¬ (fun q : Nat => s.heap.size ≤ q) b := Nat.not_le.mpr hbl
  have hown : s.vm.findClass nR_Law = some m.cls := hown
  have hev : xt_ev s H := k_evH hev0 hS
  unfold st_layer at hst
  rcases hst with ⟨R1, S0, S1, e1, e2, et, ea, hRel⟩ | ⟨S0, S1, e1, e2, et, hRel⟩
  ·
    refine lv_aload_n hx hb nd_Law_law_562 rfl (lv_at hl 3 rfl) ?_
    refine lv_aload_n hx hb nd_Law_law_563 rfl (lv_at hl 4 rfl) ?_
    refine lv_iload hx hb nd_Law_law_564 (lv_at hl 0 rfl) ?_
    refine lv_iconst (v := 1) hx hb nd_Law_law_566 (by decide) ?_
    refine lv_iadd hx hb nd_Law_law_567 ?_
    refine k_sld (n := n) (j := 1) hx hb hX hbl hbA hS (k_sidx rfl) (by omega) hL nd_Law_law_568 ?_
    refine lv_aload_n hx hb nd_Law_law_569 rfl (lv_at hl 1 rfl) ?_
    refine k_wSWI (wr := k_pick (wA qc qm qo ca I J A L i a l9 o) [2, 3, 4, 6, 9, 10, 11, 12, 13, 14, 15, 16, 17, 18, 19, 20, 21, 22, 23, 24, 25, 26, 27, 28, 29, 30, 31, 32, 33, 34, 35, 36, 37, 38, 39, 40, 41, 42, 43, 44, 45, 46, 47, 48, 49, 50, 51, 52, 53, 54, 55, 56, 57, 58, 59, 60, 61, 62, 63, 64, 65, 66, 67, 68, 69, 70, 71, 72, 73, 74, 75, 76, 77, 78, 79, 80, 81, 82, 83, 84, 85, 86, 87]) (w2 := wA qc qm qo ca I J A L i a l9 R1) (As := [.ref (qc 0), .int (xs (n + 1)), .ref qo]) (rest := []) (r := 0) hx hb hml hown hts (cn_Law_layer l D ca (qc 0) (qc 1) (qc 19) (qc 34) (qc 47) (qc 48) (qc 58) (qc 2) (qc 5) (qc 9) (qc 13) (qc 6) (qc 7) (qc 8) qo (I 0) (I 3) (L 2) (A 1) o (xs (n + 1)) (0 : Int32) R1 e1 _) kc_Law_layer ks_Law_layer tt_539 ⟨by decide, by decide⟩ rfl rfl hP hK hD hS hA [0, 1, 5, 8, 7, 88] [2, 3, 4, 6, 9, 10, 11, 12, 13, 14, 15, 16, 17, 18, 19, 20, 21, 22, 23, 24, 25, 26, 27, 28, 29, 30, 31, 32, 33, 34, 35, 36, 37, 38, 39, 40, 41, 42, 43, 44, 45, 46, 47, 48, 49, 50, 51, 52, 53, 54, 55, 56, 57, 58, 59, 60, 61, 62, 63, 64, 65, 66, 67, 68, 69, 70, 71, 72, 73, 74, 75, 76, 77, 78, 79, 80, 81, 82, 83, 84, 85, 86, 87] [83, 84, 0, 1, 2, 85, 3, 87, 86, 4, 5, 6, 7, 8, 9, 10, 11, 12, 13, 14, 15, 16, 17, 18, 19, 20, 21, 22, 23, 24, 25, 26, 27, 28, 29, 30, 31, 32, 33, 34, 35, 36, 37, 38, 39, 40, 41, 42, 43, 44, 45, 46, 47, 48, 49, 50, 51, 52, 53, 54, 55, 56, 57, 58, 59, 60, 61, 62, 63, 64, 65, 66, 67, 68, 69, 70, 71, 72, 73, 74, 75, 76, 77, 78, 79, 80, 81, 82, 88] rfl (by decide) rfl (by decide) (by decide) rfl (by decide) rfl hl.1 (Nat.le_of_ble_eq_true rfl) rfl nd_Law_law_570 ⟨by show _ ≤ 601024; omega, by show _ ≤ 7293034; omega⟩ (fun H locs hP hD hS => ?_)
    refine W.widen (k := 400 + n) (n := 20000 + 6 * n) (by omega) (by omega) ?_
    refine lv_istore (lv' := [(5, .int 0), (4, .int (nI n)), (3, .ref qo), (2, .ref (qm 0)), (1, .ref (qc 0)), (0, .ref b)]) hx hb nd_Law_law_573 hl (by decide) rfl (fun ls hl => ?_)
    refine lv_aload_n hx hb nd_Law_law_575 rfl (lv_at hl 3 rfl) ?_
    refine lv_aload_n hx hb nd_Law_law_576 rfl (lv_at hl 5 rfl) ?_
    refine lv_iload hx hb nd_Law_law_577 (lv_at hl 1 rfl) ?_
    refine lv_iconst (v := 1) hx hb nd_Law_law_579 (by decide) ?_
    refine lv_iadd hx hb nd_Law_law_580 ?_
    refine k_sld (n := n) (j := 1) hx hb hX hbl hbA hS (k_sidx rfl) (by omega) hL nd_Law_law_581 ?_
    refine k_wVI (wr := k_pick (wA qc qm qo ca I J A L i a l9 R1) [0, 1, 2, 3, 4, 5, 6, 7, 8, 9, 10, 11, 12, 13, 14, 15, 16, 17, 18, 19, 20, 21, 22, 23, 24, 25, 26, 27, 28, 29, 30, 31, 32, 33, 34, 35, 36, 37, 38, 39, 40, 41, 42, 43, 44, 45, 46, 47, 48, 49, 50, 51, 52, 53, 54, 55, 56, 57, 58, 59, 60, 61, 62, 65, 66, 67, 68, 70, 71, 72, 73, 74, 75, 76, 77, 78, 79, 80, 81, 82, 83, 84, 85, 86, 87, 88]) (w2 := wA qc qm qo ca I J A L (va_up i 0 S1) a l9 R1) (As := [.int (xs (n + 1))]) (rest := []) (r := S0) hx hb hml hown hts (cn_Model_layer l D ca (qm 0) (qm 1) (qm 2) (qm 3) (qm 4) (qm 5) (qm 6) (qm 7) (qm 8) (qm 9) (qm 10) (qm 11) (qm 12) (qm 13) (qm 14) (qm 15) (qm 16) (qm 17) (qm 18) (qm 19) (qm 20) (qm 21) (qm 22) (qm 23) (qm 24) (i 0) (i 1) (i 2) (i 3) (i 4) (i 5) (i 6) (i 7) (l9 0) (a 1) (xs (n + 1)) S0 S1 e2 _) kc_Model_layer kv_Model_layer tt_928 ⟨by decide, by decide⟩ rfl rfl hP hK hD hS hA [63, 64, 69] [0, 1, 2, 3, 4, 5, 6, 7, 8, 9, 10, 11, 12, 13, 14, 15, 16, 17, 18, 19, 20, 21, 22, 23, 24, 25, 26, 27, 28, 29, 30, 31, 32, 33, 34, 35, 36, 37, 38, 39, 40, 41, 42, 43, 44, 45, 46, 47, 48, 49, 50, 51, 52, 53, 54, 55, 56, 57, 58, 59, 60, 61, 62, 65, 66, 67, 68, 70, 71, 72, 73, 74, 75, 76, 77, 78, 79, 80, 81, 82, 83, 84, 85, 86, 87, 88] [0, 1, 2, 3, 4, 5, 6, 7, 8, 9, 10, 11, 12, 13, 14, 15, 16, 17, 18, 19, 20, 21, 22, 23, 24, 25, 26, 27, 28, 29, 30, 31, 32, 33, 34, 35, 36, 37, 38, 39, 40, 41, 42, 43, 44, 45, 46, 47, 48, 49, 50, 51, 52, 53, 54, 55, 56, 57, 58, 59, 60, 61, 62, 86, 87, 63, 64, 65, 66, 88, 67, 68, 69, 70, 71, 72, 73, 74, 75, 76, 77, 78, 79, 80, 81, 82, 83, 84, 85] rfl (by decide) rfl (by decide) (by decide) rfl (by decide) 0 rfl rfl rfl rfl hl.1 (Nat.le_of_ble_eq_true rfl) rfl nd_Law_law_582 ⟨by show _ ≤ 601024; omega, by show _ ≤ 7293034; omega⟩ (fun H locs hP hD hS => ?_)
    refine lv_istore (lv' := [(6, .int S0), (5, .int 0), (4, .int (nI n)), (3, .ref qo), (2, .ref (qm 0)), (1, .ref (qc 0)), (0, .ref b)]) hx hb nd_Law_law_585 hl (by decide) rfl (fun ls hl => ?_)
    refine lv_aload_n hx hb nd_Law_law_587 rfl (lv_at hl 4 rfl) ?_
    refine k_rVI (As := []) (rest := []) (r := S1) hx hb hml hown hts (cn_Model_thrown l D ca (qm 0) (qm 1) (qm 2) (qm 3) (qm 4) (qm 5) (qm 6) (qm 7) (qm 8) (qm 9) (qm 10) (qm 11) (qm 12) (qm 13) (qm 14) (qm 15) (qm 16) (qm 17) (qm 18) (qm 19) (qm 20) (qm 21) (qm 22) (qm 23) (qm 24) ((va_up i 0 S1) 0) ((va_up i 0 S1) 1) ((va_up i 0 S1) 2) ((va_up i 0 S1) 3) ((va_up i 0 S1) 4) ((va_up i 0 S1) 5) ((va_up i 0 S1) 6) ((va_up i 0 S1) 7) S1 rfl) kc_Model_thrown kv_Model_thrown tt_820 ⟨by decide, by decide⟩ rfl rfl hP hK [63] rfl 0 rfl rfl rfl rfl hl.1 (Nat.le_of_ble_eq_true rfl) rfl nd_Law_law_588 ⟨by show _ ≤ 601024; omega, by show _ ≤ 7293034; omega⟩ ?_
    refine lv_iload hx hb nd_Law_law_591 (lv_at hl 1 rfl) ?_
    refine lv_icmp_eq (tgt := 598) hx hb nd_Law_law_593 (by decide) (fun c1 => ?_) (fun c1 => ?_)
    rotate_left
    · exact absurd et c1
    refine lv_iload hx hb nd_Law_law_598 (lv_at hl 1 rfl) ?_
    refine lv_if_ne (tgt := 615) hx hb nd_Law_law_600 (by decide) (fun c2 => ?_) (fun c2 => ?_)
    · exact absurd rfl c2
    refine lv_aload_n hx hb nd_Law_law_603 rfl (lv_at hl 3 rfl) ?_
    refine lv_iconst (v := 0) hx hb nd_Law_law_604 (by decide) ?_
    refine va_lald hx hb hK hP 88 1 rfl rfl (by unfold vp_in; decide) nd_Law_law_605 ?_
    refine lv_iload hx hb nd_Law_law_606 (lv_at hl 0 rfl) ?_
    refine lv_i2l hx hb nd_Law_law_608 rfl ?_
    refine W.lcmp hx hb nd_Law_law_609 ?_
    refine lv_if_eq (tgt := 615) hx hb nd_Law_law_610 (by decide) (fun c3 => ?_) (fun c3 => ?_)
    rotate_left
    · exact absurd ea c3
    refine lv_goto (tgt := 1452) hx hb nd_Law_law_615 (by decide) ?_
    refine W.widen (k := 400 + n + 1) (n := 20000 + 6 * n + 6) (by omega) (by omega) ?_
    exact hnext _ _ _ _ _ _ _ _ _ _ _ hRel hP hD hS (lv_sub hl [2, 3, 4, 5, 6] rfl)
  ·
    refine lv_aload_n hx hb nd_Law_law_562 rfl (lv_at hl 3 rfl) ?_
    refine lv_aload_n hx hb nd_Law_law_563 rfl (lv_at hl 4 rfl) ?_
    refine lv_iload hx hb nd_Law_law_564 (lv_at hl 0 rfl) ?_
    refine lv_iconst (v := 1) hx hb nd_Law_law_566 (by decide) ?_
    refine lv_iadd hx hb nd_Law_law_567 ?_
    refine k_sld (n := n) (j := 1) hx hb hX hbl hbA hS (k_sidx rfl) (by omega) hL nd_Law_law_568 ?_
    refine lv_aload_n hx hb nd_Law_law_569 rfl (lv_at hl 1 rfl) ?_
    refine k_wSWX (wr := k_pick (wA qc qm qo ca I J A L i a l9 o) [2, 3, 4, 6, 9, 10, 11, 12, 13, 14, 15, 16, 17, 18, 19, 20, 21, 22, 23, 24, 25, 26, 27, 28, 29, 30, 31, 32, 33, 34, 35, 36, 37, 38, 39, 40, 41, 42, 43, 44, 45, 46, 47, 48, 49, 50, 51, 52, 53, 54, 55, 56, 57, 58, 59, 60, 61, 62, 63, 64, 65, 66, 67, 68, 69, 70, 71, 72, 73, 74, 75, 76, 77, 78, 79, 80, 81, 82, 83, 84, 85, 86, 87]) (w2 := wA qc qm qo ca I J A L i a l9 o) (As := [.ref (qc 0), .int (xs (n + 1)), .ref qo]) (rest := []) (r := 1) hx hb hml hown hts (hx_Law_layer_1 l hlt D ca (qc 0) (qc 1) (qc 19) (qc 34) (qc 47) (qc 48) (qc 58) (qc 2) (qc 5) (qc 9) (qc 13) (qc 6) (qc 7) (qc 8) qo (I 0) (I 3) (L 2) (A 1) o (xs (n + 1)) e1 _) kc_Law_layer ks_Law_layer tt_539 ⟨by decide, by decide⟩ rfl rfl hP hK hD hS hA hev [0, 1, 5, 8, 7, 88] [2, 3, 4, 6, 9, 10, 11, 12, 13, 14, 15, 16, 17, 18, 19, 20, 21, 22, 23, 24, 25, 26, 27, 28, 29, 30, 31, 32, 33, 34, 35, 36, 37, 38, 39, 40, 41, 42, 43, 44, 45, 46, 47, 48, 49, 50, 51, 52, 53, 54, 55, 56, 57, 58, 59, 60, 61, 62, 63, 64, 65, 66, 67, 68, 69, 70, 71, 72, 73, 74, 75, 76, 77, 78, 79, 80, 81, 82, 83, 84, 85, 86, 87] [83, 84, 0, 1, 2, 85, 3, 87, 86, 4, 5, 6, 7, 8, 9, 10, 11, 12, 13, 14, 15, 16, 17, 18, 19, 20, 21, 22, 23, 24, 25, 26, 27, 28, 29, 30, 31, 32, 33, 34, 35, 36, 37, 38, 39, 40, 41, 42, 43, 44, 45, 46, 47, 48, 49, 50, 51, 52, 53, 54, 55, 56, 57, 58, 59, 60, 61, 62, 63, 64, 65, 66, 67, 68, 69, 70, 71, 72, 73, 74, 75, 76, 77, 78, 79, 80, 81, 82, 88] rfl (by decide) rfl (by decide) (by decide) rfl (by decide) rfl hl.1 (Nat.le_of_ble_eq_true rfl) rfl nd_Law_law_570 ⟨by show _ ≤ 601024; omega, by show _ ≤ 7293034; omega⟩ (fun H locs hP hD hS => ?_)
    refine W.widen (k := 400 + n + 1) (n := 20000 + 6 * n + 6) (by omega) (by omega) ?_
    refine lv_istore (lv' := [(5, .int 1), (4, .int (nI n)), (3, .ref qo), (2, .ref (qm 0)), (1, .ref (qc 0)), (0, .ref b)]) hx hb nd_Law_law_573 hl (by decide) rfl (fun ls hl => ?_)
    refine lv_aload_n hx hb nd_Law_law_575 rfl (lv_at hl 3 rfl) ?_
    refine lv_aload_n hx hb nd_Law_law_576 rfl (lv_at hl 5 rfl) ?_
    refine lv_iload hx hb nd_Law_law_577 (lv_at hl 1 rfl) ?_
    refine lv_iconst (v := 1) hx hb nd_Law_law_579 (by decide) ?_
    refine lv_iadd hx hb nd_Law_law_580 ?_
    refine k_sld (n := n) (j := 1) hx hb hX hbl hbA hS (k_sidx rfl) (by omega) hL nd_Law_law_581 ?_
    refine k_wVI (wr := k_pick (wA qc qm qo ca I J A L i a l9 o) [0, 1, 2, 3, 4, 5, 6, 7, 8, 9, 10, 11, 12, 13, 14, 15, 16, 17, 18, 19, 20, 21, 22, 23, 24, 25, 26, 27, 28, 29, 30, 31, 32, 33, 34, 35, 36, 37, 38, 39, 40, 41, 42, 43, 44, 45, 46, 47, 48, 49, 50, 51, 52, 53, 54, 55, 56, 57, 58, 59, 60, 61, 62, 65, 66, 67, 68, 70, 71, 72, 73, 74, 75, 76, 77, 78, 79, 80, 81, 82, 83, 84, 85, 86, 87, 88]) (w2 := wA qc qm qo ca I J A L (va_up i 0 S1) a l9 o) (As := [.int (xs (n + 1))]) (rest := []) (r := S0) hx hb hml hown hts (cn_Model_layer l D ca (qm 0) (qm 1) (qm 2) (qm 3) (qm 4) (qm 5) (qm 6) (qm 7) (qm 8) (qm 9) (qm 10) (qm 11) (qm 12) (qm 13) (qm 14) (qm 15) (qm 16) (qm 17) (qm 18) (qm 19) (qm 20) (qm 21) (qm 22) (qm 23) (qm 24) (i 0) (i 1) (i 2) (i 3) (i 4) (i 5) (i 6) (i 7) (l9 0) (a 1) (xs (n + 1)) S0 S1 e2 _) kc_Model_layer kv_Model_layer tt_928 ⟨by decide, by decide⟩ rfl rfl hP hK hD hS hA [63, 64, 69] [0, 1, 2, 3, 4, 5, 6, 7, 8, 9, 10, 11, 12, 13, 14, 15, 16, 17, 18, 19, 20, 21, 22, 23, 24, 25, 26, 27, 28, 29, 30, 31, 32, 33, 34, 35, 36, 37, 38, 39, 40, 41, 42, 43, 44, 45, 46, 47, 48, 49, 50, 51, 52, 53, 54, 55, 56, 57, 58, 59, 60, 61, 62, 65, 66, 67, 68, 70, 71, 72, 73, 74, 75, 76, 77, 78, 79, 80, 81, 82, 83, 84, 85, 86, 87, 88] [0, 1, 2, 3, 4, 5, 6, 7, 8, 9, 10, 11, 12, 13, 14, 15, 16, 17, 18, 19, 20, 21, 22, 23, 24, 25, 26, 27, 28, 29, 30, 31, 32, 33, 34, 35, 36, 37, 38, 39, 40, 41, 42, 43, 44, 45, 46, 47, 48, 49, 50, 51, 52, 53, 54, 55, 56, 57, 58, 59, 60, 61, 62, 86, 87, 63, 64, 65, 66, 88, 67, 68, 69, 70, 71, 72, 73, 74, 75, 76, 77, 78, 79, 80, 81, 82, 83, 84, 85] rfl (by decide) rfl (by decide) (by decide) rfl (by decide) 0 rfl rfl rfl rfl hl.1 (Nat.le_of_ble_eq_true rfl) rfl nd_Law_law_582 ⟨by show _ ≤ 601024; omega, by show _ ≤ 7293034; omega⟩ (fun H locs hP hD hS => ?_)
    refine lv_istore (lv' := [(6, .int S0), (5, .int 1), (4, .int (nI n)), (3, .ref qo), (2, .ref (qm 0)), (1, .ref (qc 0)), (0, .ref b)]) hx hb nd_Law_law_585 hl (by decide) rfl (fun ls hl => ?_)
    refine lv_aload_n hx hb nd_Law_law_587 rfl (lv_at hl 4 rfl) ?_
    refine k_rVI (As := []) (rest := []) (r := S1) hx hb hml hown hts (cn_Model_thrown l D ca (qm 0) (qm 1) (qm 2) (qm 3) (qm 4) (qm 5) (qm 6) (qm 7) (qm 8) (qm 9) (qm 10) (qm 11) (qm 12) (qm 13) (qm 14) (qm 15) (qm 16) (qm 17) (qm 18) (qm 19) (qm 20) (qm 21) (qm 22) (qm 23) (qm 24) ((va_up i 0 S1) 0) ((va_up i 0 S1) 1) ((va_up i 0 S1) 2) ((va_up i 0 S1) 3) ((va_up i 0 S1) 4) ((va_up i 0 S1) 5) ((va_up i 0 S1) 6) ((va_up i 0 S1) 7) S1 rfl) kc_Model_thrown kv_Model_thrown tt_820 ⟨by decide, by decide⟩ rfl rfl hP hK [63] rfl 0 rfl rfl rfl rfl hl.1 (Nat.le_of_ble_eq_true rfl) rfl nd_Law_law_588 ⟨by show _ ≤ 601024; omega, by show _ ≤ 7293034; omega⟩ ?_
    refine lv_iload hx hb nd_Law_law_591 (lv_at hl 1 rfl) ?_
    refine lv_icmp_eq (tgt := 598) hx hb nd_Law_law_593 (by decide) (fun c4 => ?_) (fun c4 => ?_)
    rotate_left
    · exact absurd et c4
    refine lv_iload hx hb nd_Law_law_598 (lv_at hl 1 rfl) ?_
    refine lv_if_ne (tgt := 615) hx hb nd_Law_law_600 (by decide) (fun c5 => ?_) (fun c5 => ?_)
    rotate_left
    · exact absurd c5 (by decide)
    refine lv_goto (tgt := 1452) hx hb nd_Law_law_615 (by decide) ?_
    refine W.widen (k := 400 + n + 1) (n := 20000 + 6 * n + 6) (by omega) (by omega) ?_
    exact hnext _ _ _ _ _ _ _ _ _ _ _ hRel hP hD hS (lv_sub hl [2, 3, 4, 5, 6] rfl)
set_option maxHeartbeats 8000000 in
set_option maxRecDepth 100000 in
theorem lc_held {p : Program} {l : Launch} {e : Env} {s : State} {m : MethodId} {below : List Frame} {meth : Method} {c : Code} {D : va_G} {ca : Nat → ClassId} {b Ls : Nat} {xs : Nat → Int32} (C0 : lw_At p s m meth c b Ls xs) (hL : Ls ≤ 2560) (hlt : l.stackTraces = false) (hev0 : xt_ev s s.heap) (hK : va_K D vwCl (tyG ca) s) {Rel : (Nat → Int32) → (Nat → Int64) → (Nat → Nat → Int32) → (Nat → Nat → Int64) → (Nat → Int32) → (Nat → Nat → Int32) → (Nat → Nat → Int64) → Prop} {qc qm : Nat → Nat} {qo : Nat} {I : Nat → Int32} {J : Nat → Int64} {A : Nat → Nat → Int32} {L : Nat → Nat → Int64} {i : Nat → Int32} {a : Nat → Nat → Int32} {l9 : Nat → Nat → Int64} {o : Nat → Int64} {n : Nat} (hn : n + 5 ≤ Ls) {H : Heap} {locs : List Loc} {ls : Array Slot} (hP : va_P D vwCl (wA qc qm qo ca I J A L i a l9 o) H) (hD : va_D (fun q : Nat => s.heap.size ≤ q) (wA qc qm qo ca I J A L i a l9 o)) (hS : va_S (fun q : Nat => s.heap.size ≤ q) s.heap H locs) (hl : lv_has ls 8 [(4, .int (nI n)), (3, .ref qo), (2, .ref (qm 0)), (1, .ref (qc 0)), (0, .ref b)]) (hst : st_held Rel I J A L i a l9 o ) (hnext : ∀ (I : Nat → Int32) (J : Nat → Int64) (A : Nat → Nat → Int32) (L : Nat → Nat → Int64) (i : Nat → Int32) (a : Nat → Nat → Int32) (l9 : Nat → Nat → Int64) (o : Nat → Int64) (H : Heap) (locs : List Loc) (ls : Array Slot), Rel I J A L i a l9 → va_P D vwCl (wA qc qm qo ca I J A L i a l9 o) H → va_D (fun q : Nat => s.heap.size ≤ q) (wA qc qm qo ca I J A L i a l9 o) → va_S (fun q : Nat => s.heap.size ≤ q) s.heap H locs → lv_has ls 8 [(4, .int (nI n)), (3, .ref qo), (2, .ref (qm 0)), (1, .ref (qc 0)), (0, .ref b)] → W p l e room_1 s m #[Value.ref b] below meth c H locs (400 + n + 1) (20000 + 6 * n + 6) (lw_Z below #[Value.ref b] s) (F0 m 1452 ls [])) : W p l e room_1 s m #[Value.ref b] below meth c H locs (400 + n) (20000 + 6 * n) (lw_Z below #[Value.ref b] s) (F0 m 618 ls []) := by
  obtain ⟨hx, hb, hr, hml, hown, hts0, hX, hbl, hlocks, hgv⟩ := C0
  have hts : ∀ w ∈ TT, w.before #[Value.ref b] s = true := fun w h => hts0 w (List.mem_filter.mp h).1
  have hA : ∀ q : Nat, s.heap.size ≤ q → (fun q : Nat => s.heap.size ≤ q) q := fun _ h => h
  have hbA : ¬ (fun q : Nat => s.heap.size ≤ q) b := Nat.not_le.mpr hbl
  have hown : s.vm.findClass nR_Law = some m.cls := hown
  have hev : xt_ev s H := k_evH hev0 hS
  unfold st_held at hst
  obtain ⟨R0, S0, S1, e1, e2, et, hRel⟩ := hst
  refine lv_aload_n hx hb nd_Law_law_618 rfl (lv_at hl 3 rfl) ?_
  refine k_rVI (As := []) (rest := []) (r := R0) hx hb hml hown hts (cn_Room_held l D ca (qc 0) (qc 1) (qc 19) (qc 34) (qc 47) (qc 48) (qc 58) (qc 2) (qc 5) (qc 9) (qc 13) (qc 10) (I 0) (I 4) (J 2) R0 e1) kc_Room_held kv_Room_held tt_266 ⟨by decide, by decide⟩ rfl rfl hP hK [0, 1, 9] rfl 0 rfl rfl rfl rfl hl.1 (Nat.le_of_ble_eq_true rfl) rfl nd_Law_law_619 ⟨by show _ ≤ 601024; omega, by show _ ≤ 7293034; omega⟩ ?_
  refine lv_aload_n hx hb nd_Law_law_622 rfl (lv_at hl 2 rfl) ?_
  refine k_wVI (wr := k_pick (wA qc qm qo ca I J A L i a l9 o) [0, 1, 2, 3, 4, 5, 6, 7, 8, 9, 10, 11, 12, 13, 14, 15, 16, 17, 18, 19, 20, 21, 22, 23, 24, 25, 26, 27, 28, 29, 30, 31, 32, 33, 34, 35, 36, 37, 38, 39, 40, 41, 42, 43, 44, 45, 46, 47, 48, 49, 50, 51, 52, 53, 54, 55, 56, 57, 58, 59, 60, 61, 62, 65, 66, 67, 68, 69, 70, 71, 72, 73, 74, 75, 76, 77, 78, 79, 80, 81, 82, 83, 84, 85, 86, 87, 88]) (w2 := wA qc qm qo ca I J A L (va_up i 0 S1) a l9 o) (As := []) (rest := [.int R0]) (r := S0) hx hb hml hown hts (cn_Model_held l D ca (qm 0) (qm 1) (qm 2) (qm 3) (qm 4) (qm 5) (qm 6) (qm 7) (qm 8) (qm 9) (qm 10) (qm 11) (qm 12) (qm 13) (qm 14) (qm 15) (qm 16) (qm 17) (qm 18) (qm 19) (qm 20) (qm 21) (qm 22) (qm 23) (qm 24) (i 0) (i 1) (i 2) (i 3) (i 4) (i 5) (i 6) (i 7) (l9 0) S0 S1 e2 _) kc_Model_held kv_Model_held tt_936 ⟨by decide, by decide⟩ rfl rfl hP hK hD hS hA [63, 64] [0, 1, 2, 3, 4, 5, 6, 7, 8, 9, 10, 11, 12, 13, 14, 15, 16, 17, 18, 19, 20, 21, 22, 23, 24, 25, 26, 27, 28, 29, 30, 31, 32, 33, 34, 35, 36, 37, 38, 39, 40, 41, 42, 43, 44, 45, 46, 47, 48, 49, 50, 51, 52, 53, 54, 55, 56, 57, 58, 59, 60, 61, 62, 65, 66, 67, 68, 69, 70, 71, 72, 73, 74, 75, 76, 77, 78, 79, 80, 81, 82, 83, 84, 85, 86, 87, 88] [0, 1, 2, 3, 4, 5, 6, 7, 8, 9, 10, 11, 12, 13, 14, 15, 16, 17, 18, 19, 20, 21, 22, 23, 24, 25, 26, 27, 28, 29, 30, 31, 32, 33, 34, 35, 36, 37, 38, 39, 40, 41, 42, 43, 44, 45, 46, 47, 48, 49, 50, 51, 52, 53, 54, 55, 56, 57, 58, 59, 60, 61, 62, 87, 88, 63, 64, 65, 66, 67, 68, 69, 70, 71, 72, 73, 74, 75, 76, 77, 78, 79, 80, 81, 82, 83, 84, 85, 86] rfl (by decide) rfl (by decide) (by decide) rfl (by decide) 0 rfl rfl rfl rfl hl.1 (Nat.le_of_ble_eq_true rfl) rfl nd_Law_law_623 ⟨by show _ ≤ 601024; omega, by show _ ≤ 7293034; omega⟩ (fun H locs hP hD hS => ?_)
  refine lv_icmp_eq (tgt := 1452) hx hb nd_Law_law_626 (by decide) (fun c1 => ?_) (fun c1 => ?_)
  rotate_left
  · exact absurd et c1
  refine W.widen (k := 400 + n + 1) (n := 20000 + 6 * n + 6) (by omega) (by omega) ?_
  exact hnext _ _ _ _ _ _ _ _ _ _ _ hRel hP hD hS (lv_sub hl [0, 1, 2, 3, 4] rfl)
set_option maxHeartbeats 8000000 in
set_option maxRecDepth 100000 in
theorem lc_on {p : Program} {l : Launch} {e : Env} {s : State} {m : MethodId} {below : List Frame} {meth : Method} {c : Code} {D : va_G} {ca : Nat → ClassId} {b Ls : Nat} {xs : Nat → Int32} (C0 : lw_At p s m meth c b Ls xs) (hL : Ls ≤ 2560) (hlt : l.stackTraces = false) (hev0 : xt_ev s s.heap) (hK : va_K D vwCl (tyG ca) s) {Rel : (Nat → Int32) → (Nat → Int64) → (Nat → Nat → Int32) → (Nat → Nat → Int64) → (Nat → Int32) → (Nat → Nat → Int32) → (Nat → Nat → Int64) → Prop} {qc qm : Nat → Nat} {qo : Nat} {I : Nat → Int32} {J : Nat → Int64} {A : Nat → Nat → Int32} {L : Nat → Nat → Int64} {i : Nat → Int32} {a : Nat → Nat → Int32} {l9 : Nat → Nat → Int64} {o : Nat → Int64} {n : Nat} (hn : n + 5 ≤ Ls) {H : Heap} {locs : List Loc} {ls : Array Slot} (hP : va_P D vwCl (wA qc qm qo ca I J A L i a l9 o) H) (hD : va_D (fun q : Nat => s.heap.size ≤ q) (wA qc qm qo ca I J A L i a l9 o)) (hS : va_S (fun q : Nat => s.heap.size ≤ q) s.heap H locs) (hl : lv_has ls 8 [(4, .int (nI n)), (3, .ref qo), (2, .ref (qm 0)), (1, .ref (qc 0)), (0, .ref b)]) (hst : st_on Rel I J A L i a l9 o (xs (n + 1))) (hnext : ∀ (I : Nat → Int32) (J : Nat → Int64) (A : Nat → Nat → Int32) (L : Nat → Nat → Int64) (i : Nat → Int32) (a : Nat → Nat → Int32) (l9 : Nat → Nat → Int64) (o : Nat → Int64) (H : Heap) (locs : List Loc) (ls : Array Slot), Rel I J A L i a l9 → va_P D vwCl (wA qc qm qo ca I J A L i a l9 o) H → va_D (fun q : Nat => s.heap.size ≤ q) (wA qc qm qo ca I J A L i a l9 o) → va_S (fun q : Nat => s.heap.size ≤ q) s.heap H locs → lv_has ls 8 [(4, .int (nI n)), (3, .ref qo), (2, .ref (qm 0)), (1, .ref (qc 0)), (0, .ref b)] → W p l e room_1 s m #[Value.ref b] below meth c H locs (400 + n + 1) (20000 + 6 * n + 6) (lw_Z below #[Value.ref b] s) (F0 m 1452 ls [])) : W p l e room_1 s m #[Value.ref b] below meth c H locs (400 + n) (20000 + 6 * n) (lw_Z below #[Value.ref b] s) (F0 m 631 ls []) := by
  obtain ⟨hx, hb, hr, hml, hown, hts0, hX, hbl, hlocks, hgv⟩ := C0
  have hts : ∀ w ∈ TT, w.before #[Value.ref b] s = true := fun w h => hts0 w (List.mem_filter.mp h).1
  have hA : ∀ q : Nat, s.heap.size ≤ q → (fun q : Nat => s.heap.size ≤ q) q := fun _ h => h
  have hbA : ¬ (fun q : Nat => s.heap.size ≤ q) b := Nat.not_le.mpr hbl
  have hown : s.vm.findClass nR_Law = some m.cls := hown
  have hev : xt_ev s H := k_evH hev0 hS
  unfold st_on at hst
  rcases hst with ⟨R1, S0, S1, e1, e2, et, ea, hRel⟩ | ⟨S0, S1, e1, e2, et, hRel⟩
  ·
    refine lv_aload_n hx hb nd_Law_law_631 rfl (lv_at hl 3 rfl) ?_
    refine lv_aload_n hx hb nd_Law_law_632 rfl (lv_at hl 4 rfl) ?_
    refine lv_iload hx hb nd_Law_law_633 (lv_at hl 0 rfl) ?_
    refine lv_iconst (v := 1) hx hb nd_Law_law_635 (by decide) ?_
    refine lv_iadd hx hb nd_Law_law_636 ?_
    refine k_sld (n := n) (j := 1) hx hb hX hbl hbA hS (k_sidx rfl) (by omega) hL nd_Law_law_637 ?_
    refine lv_aload_n hx hb nd_Law_law_638 rfl (lv_at hl 1 rfl) ?_
    refine k_wSWI (wr := k_pick (wA qc qm qo ca I J A L i a l9 o) [2, 3, 4, 5, 6, 7, 8, 9, 10, 11, 12, 14, 15, 16, 17, 19, 20, 21, 22, 23, 24, 25, 26, 27, 28, 29, 30, 31, 32, 33, 34, 35, 36, 37, 38, 39, 40, 41, 42, 43, 44, 45, 46, 47, 48, 49, 50, 51, 52, 53, 54, 55, 56, 57, 58, 59, 60, 61, 62, 63, 64, 65, 66, 67, 68, 69, 70, 71, 72, 73, 74, 75, 76, 77, 78, 79, 80, 81, 82, 83, 84, 85, 86, 87]) (w2 := wA qc qm qo ca I J A L i a l9 R1) (As := [.ref (qc 0), .int (xs (n + 1)), .ref qo]) (rest := []) (r := 0) hx hb hml hown hts (cn_Law_on l D ca (qc 0) (qc 1) (qc 19) (qc 34) (qc 47) (qc 48) (qc 58) (qc 2) (qc 5) (qc 9) (qc 13) (qc 14) (qc 15) (qc 16) (qc 17) (qc 18) qo (I 0) (A 8) o (xs (n + 1)) (0 : Int32) R1 e1 _) kc_Law_on ks_Law_on tt_547 ⟨by decide, by decide⟩ rfl rfl hP hK hD hS hA [0, 1, 13, 18, 88] [2, 3, 4, 5, 6, 7, 8, 9, 10, 11, 12, 14, 15, 16, 17, 19, 20, 21, 22, 23, 24, 25, 26, 27, 28, 29, 30, 31, 32, 33, 34, 35, 36, 37, 38, 39, 40, 41, 42, 43, 44, 45, 46, 47, 48, 49, 50, 51, 52, 53, 54, 55, 56, 57, 58, 59, 60, 61, 62, 63, 64, 65, 66, 67, 68, 69, 70, 71, 72, 73, 74, 75, 76, 77, 78, 79, 80, 81, 82, 83, 84, 85, 86, 87] [84, 85, 0, 1, 2, 3, 4, 5, 6, 7, 8, 9, 10, 86, 11, 12, 13, 14, 87, 15, 16, 17, 18, 19, 20, 21, 22, 23, 24, 25, 26, 27, 28, 29, 30, 31, 32, 33, 34, 35, 36, 37, 38, 39, 40, 41, 42, 43, 44, 45, 46, 47, 48, 49, 50, 51, 52, 53, 54, 55, 56, 57, 58, 59, 60, 61, 62, 63, 64, 65, 66, 67, 68, 69, 70, 71, 72, 73, 74, 75, 76, 77, 78, 79, 80, 81, 82, 83, 88] rfl (by decide) rfl (by decide) (by decide) rfl (by decide) rfl hl.1 (Nat.le_of_ble_eq_true rfl) rfl nd_Law_law_639 ⟨by show _ ≤ 601024; omega, by show _ ≤ 7293034; omega⟩ (fun H locs hP hD hS => ?_)
    refine W.widen (k := 400 + n) (n := 20000 + 6 * n) (by omega) (by omega) ?_
    refine lv_istore (lv' := [(5, .int 0), (4, .int (nI n)), (3, .ref qo), (2, .ref (qm 0)), (1, .ref (qc 0)), (0, .ref b)]) hx hb nd_Law_law_642 hl (by decide) rfl (fun ls hl => ?_)
    refine lv_aload_n hx hb nd_Law_law_644 rfl (lv_at hl 3 rfl) ?_
    refine lv_aload_n hx hb nd_Law_law_645 rfl (lv_at hl 5 rfl) ?_
    refine lv_iload hx hb nd_Law_law_646 (lv_at hl 1 rfl) ?_
    refine lv_iconst (v := 1) hx hb nd_Law_law_648 (by decide) ?_
    refine lv_iadd hx hb nd_Law_law_649 ?_
    refine k_sld (n := n) (j := 1) hx hb hX hbl hbA hS (k_sidx rfl) (by omega) hL nd_Law_law_650 ?_
    refine k_wVI (wr := k_pick (wA qc qm qo ca I J A L i a l9 R1) [0, 1, 2, 3, 4, 5, 6, 7, 8, 9, 10, 11, 12, 13, 14, 15, 16, 17, 18, 19, 20, 21, 22, 23, 24, 25, 26, 27, 28, 29, 30, 31, 32, 33, 34, 35, 36, 37, 38, 39, 40, 41, 42, 43, 44, 45, 46, 47, 48, 49, 50, 51, 52, 53, 54, 55, 56, 57, 58, 59, 60, 61, 62, 65, 66, 67, 68, 69, 70, 71, 72, 73, 74, 75, 76, 77, 78, 79, 80, 81, 82, 83, 84, 85, 86, 87, 88]) (w2 := wA qc qm qo ca I J A L (va_up i 0 S1) a l9 R1) (As := [.int (xs (n + 1))]) (rest := []) (r := S0) hx hb hml hown hts (cn_Model_on l D ca (qm 0) (qm 1) (qm 2) (qm 3) (qm 4) (qm 5) (qm 6) (qm 7) (qm 8) (qm 9) (qm 10) (qm 11) (qm 12) (qm 13) (qm 14) (qm 15) (qm 16) (qm 17) (qm 18) (qm 19) (qm 20) (qm 21) (qm 22) (qm 23) (qm 24) (i 0) (i 1) (i 2) (i 3) (i 4) (i 5) (i 6) (i 7) (l9 0) (xs (n + 1)) S0 S1 e2 _) kc_Model_on kv_Model_on tt_940 ⟨by decide, by decide⟩ rfl rfl hP hK hD hS hA [63, 64] [0, 1, 2, 3, 4, 5, 6, 7, 8, 9, 10, 11, 12, 13, 14, 15, 16, 17, 18, 19, 20, 21, 22, 23, 24, 25, 26, 27, 28, 29, 30, 31, 32, 33, 34, 35, 36, 37, 38, 39, 40, 41, 42, 43, 44, 45, 46, 47, 48, 49, 50, 51, 52, 53, 54, 55, 56, 57, 58, 59, 60, 61, 62, 65, 66, 67, 68, 69, 70, 71, 72, 73, 74, 75, 76, 77, 78, 79, 80, 81, 82, 83, 84, 85, 86, 87, 88] [0, 1, 2, 3, 4, 5, 6, 7, 8, 9, 10, 11, 12, 13, 14, 15, 16, 17, 18, 19, 20, 21, 22, 23, 24, 25, 26, 27, 28, 29, 30, 31, 32, 33, 34, 35, 36, 37, 38, 39, 40, 41, 42, 43, 44, 45, 46, 47, 48, 49, 50, 51, 52, 53, 54, 55, 56, 57, 58, 59, 60, 61, 62, 87, 88, 63, 64, 65, 66, 67, 68, 69, 70, 71, 72, 73, 74, 75, 76, 77, 78, 79, 80, 81, 82, 83, 84, 85, 86] rfl (by decide) rfl (by decide) (by decide) rfl (by decide) 0 rfl rfl rfl rfl hl.1 (Nat.le_of_ble_eq_true rfl) rfl nd_Law_law_651 ⟨by show _ ≤ 601024; omega, by show _ ≤ 7293034; omega⟩ (fun H locs hP hD hS => ?_)
    refine lv_istore (lv' := [(6, .int S0), (5, .int 0), (4, .int (nI n)), (3, .ref qo), (2, .ref (qm 0)), (1, .ref (qc 0)), (0, .ref b)]) hx hb nd_Law_law_654 hl (by decide) rfl (fun ls hl => ?_)
    refine lv_aload_n hx hb nd_Law_law_656 rfl (lv_at hl 4 rfl) ?_
    refine k_rVI (As := []) (rest := []) (r := S1) hx hb hml hown hts (cn_Model_thrown l D ca (qm 0) (qm 1) (qm 2) (qm 3) (qm 4) (qm 5) (qm 6) (qm 7) (qm 8) (qm 9) (qm 10) (qm 11) (qm 12) (qm 13) (qm 14) (qm 15) (qm 16) (qm 17) (qm 18) (qm 19) (qm 20) (qm 21) (qm 22) (qm 23) (qm 24) ((va_up i 0 S1) 0) ((va_up i 0 S1) 1) ((va_up i 0 S1) 2) ((va_up i 0 S1) 3) ((va_up i 0 S1) 4) ((va_up i 0 S1) 5) ((va_up i 0 S1) 6) ((va_up i 0 S1) 7) S1 rfl) kc_Model_thrown kv_Model_thrown tt_820 ⟨by decide, by decide⟩ rfl rfl hP hK [63] rfl 0 rfl rfl rfl rfl hl.1 (Nat.le_of_ble_eq_true rfl) rfl nd_Law_law_657 ⟨by show _ ≤ 601024; omega, by show _ ≤ 7293034; omega⟩ ?_
    refine lv_iload hx hb nd_Law_law_660 (lv_at hl 1 rfl) ?_
    refine lv_icmp_eq (tgt := 667) hx hb nd_Law_law_662 (by decide) (fun c1 => ?_) (fun c1 => ?_)
    rotate_left
    · exact absurd et c1
    refine lv_iload hx hb nd_Law_law_667 (lv_at hl 1 rfl) ?_
    refine lv_if_ne (tgt := 691) hx hb nd_Law_law_669 (by decide) (fun c2 => ?_) (fun c2 => ?_)
    · exact absurd rfl c2
    refine lv_aload_n hx hb nd_Law_law_672 rfl (lv_at hl 3 rfl) ?_
    refine lv_iconst (v := 0) hx hb nd_Law_law_673 (by decide) ?_
    refine va_lald hx hb hK hP 88 1 rfl rfl (by unfold vp_in; decide) nd_Law_law_674 ?_
    refine lv_iload hx hb nd_Law_law_675 (lv_at hl 0 rfl) ?_
    refine lv_if_eq (tgt := 684) hx hb nd_Law_law_677 (by decide) (fun c3 => ?_) (fun c3 => ?_)
    ·
      refine lv_lconst (v := 0) hx hb nd_Law_law_684 (by decide) ?_
      refine W.lcmp hx hb nd_Law_law_685 ?_
      refine lv_if_eq (tgt := 691) hx hb nd_Law_law_686 (by decide) (fun c4 => ?_) (fun c4 => ?_)
      rotate_left
      · exact absurd (ea.1 c3) c4
      refine lv_goto (tgt := 1452) hx hb nd_Law_law_691 (by decide) ?_
      refine W.widen (k := 400 + n + 1) (n := 20000 + 6 * n + 6) (by omega) (by omega) ?_
      exact hnext _ _ _ _ _ _ _ _ _ _ _ hRel hP hD hS (lv_sub hl [2, 3, 4, 5, 6] rfl)
    ·
      refine lv_lconst (v := 1) hx hb nd_Law_law_680 (by decide) ?_
      refine lv_goto (tgt := 685) hx hb nd_Law_law_681 (by decide) ?_
      refine W.lcmp hx hb nd_Law_law_685 ?_
      refine lv_if_eq (tgt := 691) hx hb nd_Law_law_686 (by decide) (fun c5 => ?_) (fun c5 => ?_)
      rotate_left
      · exact absurd (ea.2 c3) c5
      refine lv_goto (tgt := 1452) hx hb nd_Law_law_691 (by decide) ?_
      refine W.widen (k := 400 + n + 1) (n := 20000 + 6 * n + 6) (by omega) (by omega) ?_
      exact hnext _ _ _ _ _ _ _ _ _ _ _ hRel hP hD hS (lv_sub hl [2, 3, 4, 5, 6] rfl)
  ·
    refine lv_aload_n hx hb nd_Law_law_631 rfl (lv_at hl 3 rfl) ?_
    refine lv_aload_n hx hb nd_Law_law_632 rfl (lv_at hl 4 rfl) ?_
    refine lv_iload hx hb nd_Law_law_633 (lv_at hl 0 rfl) ?_
    refine lv_iconst (v := 1) hx hb nd_Law_law_635 (by decide) ?_
    refine lv_iadd hx hb nd_Law_law_636 ?_
    refine k_sld (n := n) (j := 1) hx hb hX hbl hbA hS (k_sidx rfl) (by omega) hL nd_Law_law_637 ?_
    refine lv_aload_n hx hb nd_Law_law_638 rfl (lv_at hl 1 rfl) ?_
    refine k_wSWX (wr := k_pick (wA qc qm qo ca I J A L i a l9 o) [2, 3, 4, 5, 6, 7, 8, 9, 10, 11, 12, 14, 15, 16, 17, 19, 20, 21, 22, 23, 24, 25, 26, 27, 28, 29, 30, 31, 32, 33, 34, 35, 36, 37, 38, 39, 40, 41, 42, 43, 44, 45, 46, 47, 48, 49, 50, 51, 52, 53, 54, 55, 56, 57, 58, 59, 60, 61, 62, 63, 64, 65, 66, 67, 68, 69, 70, 71, 72, 73, 74, 75, 76, 77, 78, 79, 80, 81, 82, 83, 84, 85, 86, 87]) (w2 := wA qc qm qo ca I J A L i a l9 o) (As := [.ref (qc 0), .int (xs (n + 1)), .ref qo]) (rest := []) (r := 1) hx hb hml hown hts (hx_Law_on_1 l hlt D ca (qc 0) (qc 1) (qc 19) (qc 34) (qc 47) (qc 48) (qc 58) (qc 2) (qc 5) (qc 9) (qc 13) (qc 14) (qc 15) (qc 16) (qc 17) (qc 18) qo (I 0) (A 8) o (xs (n + 1)) e1 _) kc_Law_on ks_Law_on tt_547 ⟨by decide, by decide⟩ rfl rfl hP hK hD hS hA hev [0, 1, 13, 18, 88] [2, 3, 4, 5, 6, 7, 8, 9, 10, 11, 12, 14, 15, 16, 17, 19, 20, 21, 22, 23, 24, 25, 26, 27, 28, 29, 30, 31, 32, 33, 34, 35, 36, 37, 38, 39, 40, 41, 42, 43, 44, 45, 46, 47, 48, 49, 50, 51, 52, 53, 54, 55, 56, 57, 58, 59, 60, 61, 62, 63, 64, 65, 66, 67, 68, 69, 70, 71, 72, 73, 74, 75, 76, 77, 78, 79, 80, 81, 82, 83, 84, 85, 86, 87] [84, 85, 0, 1, 2, 3, 4, 5, 6, 7, 8, 9, 10, 86, 11, 12, 13, 14, 87, 15, 16, 17, 18, 19, 20, 21, 22, 23, 24, 25, 26, 27, 28, 29, 30, 31, 32, 33, 34, 35, 36, 37, 38, 39, 40, 41, 42, 43, 44, 45, 46, 47, 48, 49, 50, 51, 52, 53, 54, 55, 56, 57, 58, 59, 60, 61, 62, 63, 64, 65, 66, 67, 68, 69, 70, 71, 72, 73, 74, 75, 76, 77, 78, 79, 80, 81, 82, 83, 88] rfl (by decide) rfl (by decide) (by decide) rfl (by decide) rfl hl.1 (Nat.le_of_ble_eq_true rfl) rfl nd_Law_law_639 ⟨by show _ ≤ 601024; omega, by show _ ≤ 7293034; omega⟩ (fun H locs hP hD hS => ?_)
    refine W.widen (k := 400 + n + 1) (n := 20000 + 6 * n + 6) (by omega) (by omega) ?_
    refine lv_istore (lv' := [(5, .int 1), (4, .int (nI n)), (3, .ref qo), (2, .ref (qm 0)), (1, .ref (qc 0)), (0, .ref b)]) hx hb nd_Law_law_642 hl (by decide) rfl (fun ls hl => ?_)
    refine lv_aload_n hx hb nd_Law_law_644 rfl (lv_at hl 3 rfl) ?_
    refine lv_aload_n hx hb nd_Law_law_645 rfl (lv_at hl 5 rfl) ?_
    refine lv_iload hx hb nd_Law_law_646 (lv_at hl 1 rfl) ?_
    refine lv_iconst (v := 1) hx hb nd_Law_law_648 (by decide) ?_
    refine lv_iadd hx hb nd_Law_law_649 ?_
    refine k_sld (n := n) (j := 1) hx hb hX hbl hbA hS (k_sidx rfl) (by omega) hL nd_Law_law_650 ?_
    refine k_wVI (wr := k_pick (wA qc qm qo ca I J A L i a l9 o) [0, 1, 2, 3, 4, 5, 6, 7, 8, 9, 10, 11, 12, 13, 14, 15, 16, 17, 18, 19, 20, 21, 22, 23, 24, 25, 26, 27, 28, 29, 30, 31, 32, 33, 34, 35, 36, 37, 38, 39, 40, 41, 42, 43, 44, 45, 46, 47, 48, 49, 50, 51, 52, 53, 54, 55, 56, 57, 58, 59, 60, 61, 62, 65, 66, 67, 68, 69, 70, 71, 72, 73, 74, 75, 76, 77, 78, 79, 80, 81, 82, 83, 84, 85, 86, 87, 88]) (w2 := wA qc qm qo ca I J A L (va_up i 0 S1) a l9 o) (As := [.int (xs (n + 1))]) (rest := []) (r := S0) hx hb hml hown hts (cn_Model_on l D ca (qm 0) (qm 1) (qm 2) (qm 3) (qm 4) (qm 5) (qm 6) (qm 7) (qm 8) (qm 9) (qm 10) (qm 11) (qm 12) (qm 13) (qm 14) (qm 15) (qm 16) (qm 17) (qm 18) (qm 19) (qm 20) (qm 21) (qm 22) (qm 23) (qm 24) (i 0) (i 1) (i 2) (i 3) (i 4) (i 5) (i 6) (i 7) (l9 0) (xs (n + 1)) S0 S1 e2 _) kc_Model_on kv_Model_on tt_940 ⟨by decide, by decide⟩ rfl rfl hP hK hD hS hA [63, 64] [0, 1, 2, 3, 4, 5, 6, 7, 8, 9, 10, 11, 12, 13, 14, 15, 16, 17, 18, 19, 20, 21, 22, 23, 24, 25, 26, 27, 28, 29, 30, 31, 32, 33, 34, 35, 36, 37, 38, 39, 40, 41, 42, 43, 44, 45, 46, 47, 48, 49, 50, 51, 52, 53, 54, 55, 56, 57, 58, 59, 60, 61, 62, 65, 66, 67, 68, 69, 70, 71, 72, 73, 74, 75, 76, 77, 78, 79, 80, 81, 82, 83, 84, 85, 86, 87, 88] [0, 1, 2, 3, 4, 5, 6, 7, 8, 9, 10, 11, 12, 13, 14, 15, 16, 17, 18, 19, 20, 21, 22, 23, 24, 25, 26, 27, 28, 29, 30, 31, 32, 33, 34, 35, 36, 37, 38, 39, 40, 41, 42, 43, 44, 45, 46, 47, 48, 49, 50, 51, 52, 53, 54, 55, 56, 57, 58, 59, 60, 61, 62, 87, 88, 63, 64, 65, 66, 67, 68, 69, 70, 71, 72, 73, 74, 75, 76, 77, 78, 79, 80, 81, 82, 83, 84, 85, 86] rfl (by decide) rfl (by decide) (by decide) rfl (by decide) 0 rfl rfl rfl rfl hl.1 (Nat.le_of_ble_eq_true rfl) rfl nd_Law_law_651 ⟨by show _ ≤ 601024; omega, by show _ ≤ 7293034; omega⟩ (fun H locs hP hD hS => ?_)
    refine lv_istore (lv' := [(6, .int S0), (5, .int 1), (4, .int (nI n)), (3, .ref qo), (2, .ref (qm 0)), (1, .ref (qc 0)), (0, .ref b)]) hx hb nd_Law_law_654 hl (by decide) rfl (fun ls hl => ?_)
    refine lv_aload_n hx hb nd_Law_law_656 rfl (lv_at hl 4 rfl) ?_
    refine k_rVI (As := []) (rest := []) (r := S1) hx hb hml hown hts (cn_Model_thrown l D ca (qm 0) (qm 1) (qm 2) (qm 3) (qm 4) (qm 5) (qm 6) (qm 7) (qm 8) (qm 9) (qm 10) (qm 11) (qm 12) (qm 13) (qm 14) (qm 15) (qm 16) (qm 17) (qm 18) (qm 19) (qm 20) (qm 21) (qm 22) (qm 23) (qm 24) ((va_up i 0 S1) 0) ((va_up i 0 S1) 1) ((va_up i 0 S1) 2) ((va_up i 0 S1) 3) ((va_up i 0 S1) 4) ((va_up i 0 S1) 5) ((va_up i 0 S1) 6) ((va_up i 0 S1) 7) S1 rfl) kc_Model_thrown kv_Model_thrown tt_820 ⟨by decide, by decide⟩ rfl rfl hP hK [63] rfl 0 rfl rfl rfl rfl hl.1 (Nat.le_of_ble_eq_true rfl) rfl nd_Law_law_657 ⟨by show _ ≤ 601024; omega, by show _ ≤ 7293034; omega⟩ ?_
    refine lv_iload hx hb nd_Law_law_660 (lv_at hl 1 rfl) ?_
    refine lv_icmp_eq (tgt := 667) hx hb nd_Law_law_662 (by decide) (fun c6 => ?_) (fun c6 => ?_)
    rotate_left
    · exact absurd et c6
    refine lv_iload hx hb nd_Law_law_667 (lv_at hl 1 rfl) ?_
    refine lv_if_ne (tgt := 691) hx hb nd_Law_law_669 (by decide) (fun c7 => ?_) (fun c7 => ?_)
    rotate_left
    · exact absurd c7 (by decide)
    refine lv_goto (tgt := 1452) hx hb nd_Law_law_691 (by decide) ?_
    refine W.widen (k := 400 + n + 1) (n := 20000 + 6 * n + 6) (by omega) (by omega) ?_
    exact hnext _ _ _ _ _ _ _ _ _ _ _ hRel hP hD hS (lv_sub hl [2, 3, 4, 5, 6] rfl)
set_option maxHeartbeats 8000000 in
set_option maxRecDepth 100000 in
theorem lc_book {p : Program} {l : Launch} {e : Env} {s : State} {m : MethodId} {below : List Frame} {meth : Method} {c : Code} {D : va_G} {ca : Nat → ClassId} {b Ls : Nat} {xs : Nat → Int32} (C0 : lw_At p s m meth c b Ls xs) (hL : Ls ≤ 2560) (hlt : l.stackTraces = false) (hev0 : xt_ev s s.heap) (hK : va_K D vwCl (tyG ca) s) {Rel : (Nat → Int32) → (Nat → Int64) → (Nat → Nat → Int32) → (Nat → Nat → Int64) → (Nat → Int32) → (Nat → Nat → Int32) → (Nat → Nat → Int64) → Prop} {qc qm : Nat → Nat} {qo : Nat} {I : Nat → Int32} {J : Nat → Int64} {A : Nat → Nat → Int32} {L : Nat → Nat → Int64} {i : Nat → Int32} {a : Nat → Nat → Int32} {l9 : Nat → Nat → Int64} {o : Nat → Int64} {n : Nat} (hn : n + 5 ≤ Ls) {H : Heap} {locs : List Loc} {ls : Array Slot} (hP : va_P D vwCl (wA qc qm qo ca I J A L i a l9 o) H) (hD : va_D (fun q : Nat => s.heap.size ≤ q) (wA qc qm qo ca I J A L i a l9 o)) (hS : va_S (fun q : Nat => s.heap.size ≤ q) s.heap H locs) (hl : lv_has ls 8 [(4, .int (nI n)), (3, .ref qo), (2, .ref (qm 0)), (1, .ref (qc 0)), (0, .ref b)]) (hst : st_book Rel I J A L i a l9 o (xs (n + 1)) (xs (n + 2))) (hnext : ∀ (I : Nat → Int32) (J : Nat → Int64) (A : Nat → Nat → Int32) (L : Nat → Nat → Int64) (i : Nat → Int32) (a : Nat → Nat → Int32) (l9 : Nat → Nat → Int64) (o : Nat → Int64) (H : Heap) (locs : List Loc) (ls : Array Slot), Rel I J A L i a l9 → va_P D vwCl (wA qc qm qo ca I J A L i a l9 o) H → va_D (fun q : Nat => s.heap.size ≤ q) (wA qc qm qo ca I J A L i a l9 o) → va_S (fun q : Nat => s.heap.size ≤ q) s.heap H locs → lv_has ls 8 [(4, .int (nI n)), (3, .ref qo), (2, .ref (qm 0)), (1, .ref (qc 0)), (0, .ref b)] → W p l e room_1 s m #[Value.ref b] below meth c H locs (400 + n + 1) (20000 + 6 * n + 6) (lw_Z below #[Value.ref b] s) (F0 m 1452 ls [])) : W p l e room_1 s m #[Value.ref b] below meth c H locs (400 + n) (20000 + 6 * n) (lw_Z below #[Value.ref b] s) (F0 m 694 ls []) := by
  obtain ⟨hx, hb, hr, hml, hown, hts0, hX, hbl, hlocks, hgv⟩ := C0
  have hts : ∀ w ∈ TT, w.before #[Value.ref b] s = true := fun w h => hts0 w (List.mem_filter.mp h).1
  have hA : ∀ q : Nat, s.heap.size ≤ q → (fun q : Nat => s.heap.size ≤ q) q := fun _ h => h
  have hbA : ¬ (fun q : Nat => s.heap.size ≤ q) b := Nat.not_le.mpr hbl
  have hown : s.vm.findClass nR_Law = some m.cls := hown
  have hev : xt_ev s H := k_evH hev0 hS
  unfold st_book at hst
  rcases hst with ⟨R1, S0, S1, e1, e2, et, ea, hRel⟩ | ⟨S0, S1, e1, e2, et, hRel⟩
  ·
    refine lv_aload_n hx hb nd_Law_law_694 rfl (lv_at hl 3 rfl) ?_
    refine lv_aload_n hx hb nd_Law_law_695 rfl (lv_at hl 4 rfl) ?_
    refine lv_iload hx hb nd_Law_law_696 (lv_at hl 0 rfl) ?_
    refine lv_iconst (v := 1) hx hb nd_Law_law_698 (by decide) ?_
    refine lv_iadd hx hb nd_Law_law_699 ?_
    refine k_sld (n := n) (j := 1) hx hb hX hbl hbA hS (k_sidx rfl) (by omega) hL nd_Law_law_700 ?_
    refine lv_aload_n hx hb nd_Law_law_701 rfl (lv_at hl 4 rfl) ?_
    refine lv_iload hx hb nd_Law_law_702 (lv_at hl 0 rfl) ?_
    refine lv_iconst (v := 2) hx hb nd_Law_law_704 (by decide) ?_
    refine lv_iadd hx hb nd_Law_law_705 ?_
    refine k_sld (n := n) (j := 2) hx hb hX hbl hbA hS (k_sidx rfl) (by omega) hL nd_Law_law_706 ?_
    refine lv_aload_n hx hb nd_Law_law_707 rfl (lv_at hl 1 rfl) ?_
    refine k_wSWI (wr := k_pick (wA qc qm qo ca I J A L i a l9 o) [5, 6, 7, 8, 9, 10, 11, 12, 13, 14, 15, 16, 17, 18, 19, 20, 21, 22, 23, 24, 25, 26, 27, 28, 29, 30, 31, 32, 33, 34, 35, 36, 37, 38, 39, 40, 41, 42, 43, 44, 45, 46, 47, 48, 49, 50, 51, 52, 53, 54, 55, 56, 57, 58, 59, 60, 61, 62, 63, 64, 65, 66, 67, 68, 69, 70, 71, 72, 73, 74, 75, 76, 77, 78, 79, 80, 81, 82, 83, 84, 85, 86, 87]) (w2 := wA qc qm qo ca I J A L i a l9 R1) (As := [.ref (qc 0), .int (xs (n + 1)), .int (xs (n + 2)), .ref qo]) (rest := []) (r := 0) hx hb hml hown hts (cn_Law_book l D ca (qc 0) (qc 1) (qc 19) (qc 34) (qc 47) (qc 48) (qc 58) (qc 2) (qc 5) (qc 9) (qc 13) (qc 3) (qc 4) qo (I 0) (I 1) (I 2) (J 0) (J 1) (L 1) (L 0) o (xs (n + 1)) (xs (n + 2)) (0 : Int32) R1 e1 _) kc_Law_book ks_Law_book tt_554 ⟨by decide, by decide⟩ rfl rfl hP hK hD hS hA [0, 1, 2, 4, 3, 88] [5, 6, 7, 8, 9, 10, 11, 12, 13, 14, 15, 16, 17, 18, 19, 20, 21, 22, 23, 24, 25, 26, 27, 28, 29, 30, 31, 32, 33, 34, 35, 36, 37, 38, 39, 40, 41, 42, 43, 44, 45, 46, 47, 48, 49, 50, 51, 52, 53, 54, 55, 56, 57, 58, 59, 60, 61, 62, 63, 64, 65, 66, 67, 68, 69, 70, 71, 72, 73, 74, 75, 76, 77, 78, 79, 80, 81, 82, 83, 84, 85, 86, 87] [83, 84, 85, 87, 86, 0, 1, 2, 3, 4, 5, 6, 7, 8, 9, 10, 11, 12, 13, 14, 15, 16, 17, 18, 19, 20, 21, 22, 23, 24, 25, 26, 27, 28, 29, 30, 31, 32, 33, 34, 35, 36, 37, 38, 39, 40, 41, 42, 43, 44, 45, 46, 47, 48, 49, 50, 51, 52, 53, 54, 55, 56, 57, 58, 59, 60, 61, 62, 63, 64, 65, 66, 67, 68, 69, 70, 71, 72, 73, 74, 75, 76, 77, 78, 79, 80, 81, 82, 88] rfl (by decide) rfl (by decide) (by decide) rfl (by decide) rfl hl.1 (Nat.le_of_ble_eq_true rfl) rfl nd_Law_law_708 ⟨by show _ ≤ 601024; omega, by show _ ≤ 7293034; omega⟩ (fun H locs hP hD hS => ?_)
    refine W.widen (k := 400 + n) (n := 20000 + 6 * n) (by omega) (by omega) ?_
    refine lv_istore (lv' := [(5, .int 0), (4, .int (nI n)), (3, .ref qo), (2, .ref (qm 0)), (1, .ref (qc 0)), (0, .ref b)]) hx hb nd_Law_law_711 hl (by decide) rfl (fun ls hl => ?_)
    refine lv_aload_n hx hb nd_Law_law_713 rfl (lv_at hl 3 rfl) ?_
    refine lv_aload_n hx hb nd_Law_law_714 rfl (lv_at hl 5 rfl) ?_
    refine lv_iload hx hb nd_Law_law_715 (lv_at hl 1 rfl) ?_
    refine lv_iconst (v := 1) hx hb nd_Law_law_717 (by decide) ?_
    refine lv_iadd hx hb nd_Law_law_718 ?_
    refine k_sld (n := n) (j := 1) hx hb hX hbl hbA hS (k_sidx rfl) (by omega) hL nd_Law_law_719 ?_
    refine lv_aload_n hx hb nd_Law_law_720 rfl (lv_at hl 5 rfl) ?_
    refine lv_iload hx hb nd_Law_law_721 (lv_at hl 1 rfl) ?_
    refine lv_iconst (v := 2) hx hb nd_Law_law_723 (by decide) ?_
    refine lv_iadd hx hb nd_Law_law_724 ?_
    refine k_sld (n := n) (j := 2) hx hb hX hbl hbA hS (k_sidx rfl) (by omega) hL nd_Law_law_725 ?_
    refine k_wVJ (wr := k_pick (wA qc qm qo ca I J A L i a l9 R1) [0, 1, 2, 3, 4, 5, 6, 7, 8, 9, 10, 11, 12, 13, 14, 15, 16, 17, 18, 19, 20, 21, 22, 23, 24, 25, 26, 27, 28, 29, 30, 31, 32, 33, 34, 35, 36, 37, 38, 39, 40, 41, 42, 43, 44, 45, 46, 47, 48, 49, 50, 51, 52, 53, 54, 55, 56, 57, 58, 59, 60, 61, 62, 65, 67, 68, 69, 70, 71, 72, 73, 74, 75, 76, 77, 78, 79, 80, 81, 82, 83, 84, 85, 86, 87, 88]) (w2 := wA qc qm qo ca I J A L (va_up i 0 S1) a l9 R1) (As := [.int (xs (n + 1)), .int (xs (n + 2))]) (rest := []) (r := S0) hx hb hml hown hts (cn_Model_book l D ca (qm 0) (qm 1) (qm 2) (qm 3) (qm 4) (qm 5) (qm 6) (qm 7) (qm 8) (qm 9) (qm 10) (qm 11) (qm 12) (qm 13) (qm 14) (qm 15) (qm 16) (qm 17) (qm 18) (qm 19) (qm 20) (qm 21) (qm 22) (qm 23) (qm 24) (i 0) (i 1) (i 2) (i 3) (i 4) (i 5) (i 6) (i 7) (l9 2) (l9 0) (xs (n + 1)) (xs (n + 2)) S0 S1 e2 _) kc_Model_book kv_Model_book tt_944 ⟨by decide, by decide⟩ rfl rfl hP hK hD hS hA [63, 66, 64] [0, 1, 2, 3, 4, 5, 6, 7, 8, 9, 10, 11, 12, 13, 14, 15, 16, 17, 18, 19, 20, 21, 22, 23, 24, 25, 26, 27, 28, 29, 30, 31, 32, 33, 34, 35, 36, 37, 38, 39, 40, 41, 42, 43, 44, 45, 46, 47, 48, 49, 50, 51, 52, 53, 54, 55, 56, 57, 58, 59, 60, 61, 62, 65, 67, 68, 69, 70, 71, 72, 73, 74, 75, 76, 77, 78, 79, 80, 81, 82, 83, 84, 85, 86, 87, 88] [0, 1, 2, 3, 4, 5, 6, 7, 8, 9, 10, 11, 12, 13, 14, 15, 16, 17, 18, 19, 20, 21, 22, 23, 24, 25, 26, 27, 28, 29, 30, 31, 32, 33, 34, 35, 36, 37, 38, 39, 40, 41, 42, 43, 44, 45, 46, 47, 48, 49, 50, 51, 52, 53, 54, 55, 56, 57, 58, 59, 60, 61, 62, 86, 88, 63, 87, 64, 65, 66, 67, 68, 69, 70, 71, 72, 73, 74, 75, 76, 77, 78, 79, 80, 81, 82, 83, 84, 85] rfl (by decide) rfl (by decide) (by decide) rfl (by decide) 0 rfl rfl rfl rfl hl.1 (Nat.le_of_ble_eq_true rfl) rfl nd_Law_law_726 ⟨by show _ ≤ 601024; omega, by show _ ≤ 7293034; omega⟩ (fun H locs hP hD hS => ?_)
    refine lv_lstore (lv' := [(6, .long S0), (5, .int 0), (4, .int (nI n)), (3, .ref qo), (2, .ref (qm 0)), (1, .ref (qc 0)), (0, .ref b)]) hx hb nd_Law_law_729 hl (by decide) rfl (fun ls hl => ?_)
    refine lv_aload_n hx hb nd_Law_law_731 rfl (lv_at hl 4 rfl) ?_
    refine k_rVI (As := []) (rest := []) (r := S1) hx hb hml hown hts (cn_Model_thrown l D ca (qm 0) (qm 1) (qm 2) (qm 3) (qm 4) (qm 5) (qm 6) (qm 7) (qm 8) (qm 9) (qm 10) (qm 11) (qm 12) (qm 13) (qm 14) (qm 15) (qm 16) (qm 17) (qm 18) (qm 19) (qm 20) (qm 21) (qm 22) (qm 23) (qm 24) ((va_up i 0 S1) 0) ((va_up i 0 S1) 1) ((va_up i 0 S1) 2) ((va_up i 0 S1) 3) ((va_up i 0 S1) 4) ((va_up i 0 S1) 5) ((va_up i 0 S1) 6) ((va_up i 0 S1) 7) S1 rfl) kc_Model_thrown kv_Model_thrown tt_820 ⟨by decide, by decide⟩ rfl rfl hP hK [63] rfl 0 rfl rfl rfl rfl hl.1 (Nat.le_of_ble_eq_true rfl) rfl nd_Law_law_732 ⟨by show _ ≤ 601024; omega, by show _ ≤ 7293034; omega⟩ ?_
    refine lv_iload hx hb nd_Law_law_735 (lv_at hl 1 rfl) ?_
    refine lv_icmp_eq (tgt := 742) hx hb nd_Law_law_737 (by decide) (fun c1 => ?_) (fun c1 => ?_)
    rotate_left
    · exact absurd et c1
    refine lv_iload hx hb nd_Law_law_742 (lv_at hl 1 rfl) ?_
    refine lv_if_ne (tgt := 758) hx hb nd_Law_law_744 (by decide) (fun c2 => ?_) (fun c2 => ?_)
    · exact absurd rfl c2
    refine lv_aload_n hx hb nd_Law_law_747 rfl (lv_at hl 3 rfl) ?_
    refine lv_iconst (v := 0) hx hb nd_Law_law_748 (by decide) ?_
    refine va_lald hx hb hK hP 88 1 rfl rfl (by unfold vp_in; decide) nd_Law_law_749 ?_
    refine lv_lload hx hb nd_Law_law_750 (lv_at hl 0 rfl) ?_
    refine W.lcmp hx hb nd_Law_law_752 ?_
    refine lv_if_eq (tgt := 758) hx hb nd_Law_law_753 (by decide) (fun c3 => ?_) (fun c3 => ?_)
    rotate_left
    · exact absurd ea c3
    refine lv_goto (tgt := 1452) hx hb nd_Law_law_758 (by decide) ?_
    refine W.widen (k := 400 + n + 1) (n := 20000 + 6 * n + 6) (by omega) (by omega) ?_
    exact hnext _ _ _ _ _ _ _ _ _ _ _ hRel hP hD hS (lv_sub hl [2, 3, 4, 5, 6] rfl)
  ·
    refine lv_aload_n hx hb nd_Law_law_694 rfl (lv_at hl 3 rfl) ?_
    refine lv_aload_n hx hb nd_Law_law_695 rfl (lv_at hl 4 rfl) ?_
    refine lv_iload hx hb nd_Law_law_696 (lv_at hl 0 rfl) ?_
    refine lv_iconst (v := 1) hx hb nd_Law_law_698 (by decide) ?_
    refine lv_iadd hx hb nd_Law_law_699 ?_
    refine k_sld (n := n) (j := 1) hx hb hX hbl hbA hS (k_sidx rfl) (by omega) hL nd_Law_law_700 ?_
    refine lv_aload_n hx hb nd_Law_law_701 rfl (lv_at hl 4 rfl) ?_
    refine lv_iload hx hb nd_Law_law_702 (lv_at hl 0 rfl) ?_
    refine lv_iconst (v := 2) hx hb nd_Law_law_704 (by decide) ?_
    refine lv_iadd hx hb nd_Law_law_705 ?_
    refine k_sld (n := n) (j := 2) hx hb hX hbl hbA hS (k_sidx rfl) (by omega) hL nd_Law_law_706 ?_
    refine lv_aload_n hx hb nd_Law_law_707 rfl (lv_at hl 1 rfl) ?_
    refine k_wSWX (wr := k_pick (wA qc qm qo ca I J A L i a l9 o) [5, 6, 7, 8, 9, 10, 11, 12, 13, 14, 15, 16, 17, 18, 19, 20, 21, 22, 23, 24, 25, 26, 27, 28, 29, 30, 31, 32, 33, 34, 35, 36, 37, 38, 39, 40, 41, 42, 43, 44, 45, 46, 47, 48, 49, 50, 51, 52, 53, 54, 55, 56, 57, 58, 59, 60, 61, 62, 63, 64, 65, 66, 67, 68, 69, 70, 71, 72, 73, 74, 75, 76, 77, 78, 79, 80, 81, 82, 83, 84, 85, 86, 87]) (w2 := wA qc qm qo ca I J A L i a l9 o) (As := [.ref (qc 0), .int (xs (n + 1)), .int (xs (n + 2)), .ref qo]) (rest := []) (r := 1) hx hb hml hown hts (hx_Law_book_1 l hlt D ca (qc 0) (qc 1) (qc 19) (qc 34) (qc 47) (qc 48) (qc 58) (qc 2) (qc 5) (qc 9) (qc 13) (qc 3) (qc 4) qo (I 0) (I 1) (I 2) (J 0) (J 1) (L 1) (L 0) o (xs (n + 1)) (xs (n + 2)) e1 _) kc_Law_book ks_Law_book tt_554 ⟨by decide, by decide⟩ rfl rfl hP hK hD hS hA hev [0, 1, 2, 4, 3, 88] [5, 6, 7, 8, 9, 10, 11, 12, 13, 14, 15, 16, 17, 18, 19, 20, 21, 22, 23, 24, 25, 26, 27, 28, 29, 30, 31, 32, 33, 34, 35, 36, 37, 38, 39, 40, 41, 42, 43, 44, 45, 46, 47, 48, 49, 50, 51, 52, 53, 54, 55, 56, 57, 58, 59, 60, 61, 62, 63, 64, 65, 66, 67, 68, 69, 70, 71, 72, 73, 74, 75, 76, 77, 78, 79, 80, 81, 82, 83, 84, 85, 86, 87] [83, 84, 85, 87, 86, 0, 1, 2, 3, 4, 5, 6, 7, 8, 9, 10, 11, 12, 13, 14, 15, 16, 17, 18, 19, 20, 21, 22, 23, 24, 25, 26, 27, 28, 29, 30, 31, 32, 33, 34, 35, 36, 37, 38, 39, 40, 41, 42, 43, 44, 45, 46, 47, 48, 49, 50, 51, 52, 53, 54, 55, 56, 57, 58, 59, 60, 61, 62, 63, 64, 65, 66, 67, 68, 69, 70, 71, 72, 73, 74, 75, 76, 77, 78, 79, 80, 81, 82, 88] rfl (by decide) rfl (by decide) (by decide) rfl (by decide) rfl hl.1 (Nat.le_of_ble_eq_true rfl) rfl nd_Law_law_708 ⟨by show _ ≤ 601024; omega, by show _ ≤ 7293034; omega⟩ (fun H locs hP hD hS => ?_)
    refine W.widen (k := 400 + n + 1) (n := 20000 + 6 * n + 6) (by omega) (by omega) ?_
    refine lv_istore (lv' := [(5, .int 1), (4, .int (nI n)), (3, .ref qo), (2, .ref (qm 0)), (1, .ref (qc 0)), (0, .ref b)]) hx hb nd_Law_law_711 hl (by decide) rfl (fun ls hl => ?_)
    refine lv_aload_n hx hb nd_Law_law_713 rfl (lv_at hl 3 rfl) ?_
    refine lv_aload_n hx hb nd_Law_law_714 rfl (lv_at hl 5 rfl) ?_
    refine lv_iload hx hb nd_Law_law_715 (lv_at hl 1 rfl) ?_
    refine lv_iconst (v := 1) hx hb nd_Law_law_717 (by decide) ?_
    refine lv_iadd hx hb nd_Law_law_718 ?_
    refine k_sld (n := n) (j := 1) hx hb hX hbl hbA hS (k_sidx rfl) (by omega) hL nd_Law_law_719 ?_
    refine lv_aload_n hx hb nd_Law_law_720 rfl (lv_at hl 5 rfl) ?_
    refine lv_iload hx hb nd_Law_law_721 (lv_at hl 1 rfl) ?_
    refine lv_iconst (v := 2) hx hb nd_Law_law_723 (by decide) ?_
    refine lv_iadd hx hb nd_Law_law_724 ?_
    refine k_sld (n := n) (j := 2) hx hb hX hbl hbA hS (k_sidx rfl) (by omega) hL nd_Law_law_725 ?_
    refine k_wVJ (wr := k_pick (wA qc qm qo ca I J A L i a l9 o) [0, 1, 2, 3, 4, 5, 6, 7, 8, 9, 10, 11, 12, 13, 14, 15, 16, 17, 18, 19, 20, 21, 22, 23, 24, 25, 26, 27, 28, 29, 30, 31, 32, 33, 34, 35, 36, 37, 38, 39, 40, 41, 42, 43, 44, 45, 46, 47, 48, 49, 50, 51, 52, 53, 54, 55, 56, 57, 58, 59, 60, 61, 62, 65, 67, 68, 69, 70, 71, 72, 73, 74, 75, 76, 77, 78, 79, 80, 81, 82, 83, 84, 85, 86, 87, 88]) (w2 := wA qc qm qo ca I J A L (va_up i 0 S1) a l9 o) (As := [.int (xs (n + 1)), .int (xs (n + 2))]) (rest := []) (r := S0) hx hb hml hown hts (cn_Model_book l D ca (qm 0) (qm 1) (qm 2) (qm 3) (qm 4) (qm 5) (qm 6) (qm 7) (qm 8) (qm 9) (qm 10) (qm 11) (qm 12) (qm 13) (qm 14) (qm 15) (qm 16) (qm 17) (qm 18) (qm 19) (qm 20) (qm 21) (qm 22) (qm 23) (qm 24) (i 0) (i 1) (i 2) (i 3) (i 4) (i 5) (i 6) (i 7) (l9 2) (l9 0) (xs (n + 1)) (xs (n + 2)) S0 S1 e2 _) kc_Model_book kv_Model_book tt_944 ⟨by decide, by decide⟩ rfl rfl hP hK hD hS hA [63, 66, 64] [0, 1, 2, 3, 4, 5, 6, 7, 8, 9, 10, 11, 12, 13, 14, 15, 16, 17, 18, 19, 20, 21, 22, 23, 24, 25, 26, 27, 28, 29, 30, 31, 32, 33, 34, 35, 36, 37, 38, 39, 40, 41, 42, 43, 44, 45, 46, 47, 48, 49, 50, 51, 52, 53, 54, 55, 56, 57, 58, 59, 60, 61, 62, 65, 67, 68, 69, 70, 71, 72, 73, 74, 75, 76, 77, 78, 79, 80, 81, 82, 83, 84, 85, 86, 87, 88] [0, 1, 2, 3, 4, 5, 6, 7, 8, 9, 10, 11, 12, 13, 14, 15, 16, 17, 18, 19, 20, 21, 22, 23, 24, 25, 26, 27, 28, 29, 30, 31, 32, 33, 34, 35, 36, 37, 38, 39, 40, 41, 42, 43, 44, 45, 46, 47, 48, 49, 50, 51, 52, 53, 54, 55, 56, 57, 58, 59, 60, 61, 62, 86, 88, 63, 87, 64, 65, 66, 67, 68, 69, 70, 71, 72, 73, 74, 75, 76, 77, 78, 79, 80, 81, 82, 83, 84, 85] rfl (by decide) rfl (by decide) (by decide) rfl (by decide) 0 rfl rfl rfl rfl hl.1 (Nat.le_of_ble_eq_true rfl) rfl nd_Law_law_726 ⟨by show _ ≤ 601024; omega, by show _ ≤ 7293034; omega⟩ (fun H locs hP hD hS => ?_)
    refine lv_lstore (lv' := [(6, .long S0), (5, .int 1), (4, .int (nI n)), (3, .ref qo), (2, .ref (qm 0)), (1, .ref (qc 0)), (0, .ref b)]) hx hb nd_Law_law_729 hl (by decide) rfl (fun ls hl => ?_)
    refine lv_aload_n hx hb nd_Law_law_731 rfl (lv_at hl 4 rfl) ?_
    refine k_rVI (As := []) (rest := []) (r := S1) hx hb hml hown hts (cn_Model_thrown l D ca (qm 0) (qm 1) (qm 2) (qm 3) (qm 4) (qm 5) (qm 6) (qm 7) (qm 8) (qm 9) (qm 10) (qm 11) (qm 12) (qm 13) (qm 14) (qm 15) (qm 16) (qm 17) (qm 18) (qm 19) (qm 20) (qm 21) (qm 22) (qm 23) (qm 24) ((va_up i 0 S1) 0) ((va_up i 0 S1) 1) ((va_up i 0 S1) 2) ((va_up i 0 S1) 3) ((va_up i 0 S1) 4) ((va_up i 0 S1) 5) ((va_up i 0 S1) 6) ((va_up i 0 S1) 7) S1 rfl) kc_Model_thrown kv_Model_thrown tt_820 ⟨by decide, by decide⟩ rfl rfl hP hK [63] rfl 0 rfl rfl rfl rfl hl.1 (Nat.le_of_ble_eq_true rfl) rfl nd_Law_law_732 ⟨by show _ ≤ 601024; omega, by show _ ≤ 7293034; omega⟩ ?_
    refine lv_iload hx hb nd_Law_law_735 (lv_at hl 1 rfl) ?_
    refine lv_icmp_eq (tgt := 742) hx hb nd_Law_law_737 (by decide) (fun c4 => ?_) (fun c4 => ?_)
    rotate_left
    · exact absurd et c4
    refine lv_iload hx hb nd_Law_law_742 (lv_at hl 1 rfl) ?_
    refine lv_if_ne (tgt := 758) hx hb nd_Law_law_744 (by decide) (fun c5 => ?_) (fun c5 => ?_)
    rotate_left
    · exact absurd c5 (by decide)
    refine lv_goto (tgt := 1452) hx hb nd_Law_law_758 (by decide) ?_
    refine W.widen (k := 400 + n + 1) (n := 20000 + 6 * n + 6) (by omega) (by omega) ?_
    exact hnext _ _ _ _ _ _ _ _ _ _ _ hRel hP hD hS (lv_sub hl [2, 3, 4, 5, 6] rfl)
set_option maxHeartbeats 8000000 in
set_option maxRecDepth 100000 in
theorem lc_dew {p : Program} {l : Launch} {e : Env} {s : State} {m : MethodId} {below : List Frame} {meth : Method} {c : Code} {D : va_G} {ca : Nat → ClassId} {b Ls : Nat} {xs : Nat → Int32} (C0 : lw_At p s m meth c b Ls xs) (hL : Ls ≤ 2560) (hlt : l.stackTraces = false) (hev0 : xt_ev s s.heap) (hK : va_K D vwCl (tyG ca) s) {Rel : (Nat → Int32) → (Nat → Int64) → (Nat → Nat → Int32) → (Nat → Nat → Int64) → (Nat → Int32) → (Nat → Nat → Int32) → (Nat → Nat → Int64) → Prop} {qc qm : Nat → Nat} {qo : Nat} {I : Nat → Int32} {J : Nat → Int64} {A : Nat → Nat → Int32} {L : Nat → Nat → Int64} {i : Nat → Int32} {a : Nat → Nat → Int32} {l9 : Nat → Nat → Int64} {o : Nat → Int64} {n : Nat} (hn : n + 5 ≤ Ls) {H : Heap} {locs : List Loc} {ls : Array Slot} (hP : va_P D vwCl (wA qc qm qo ca I J A L i a l9 o) H) (hD : va_D (fun q : Nat => s.heap.size ≤ q) (wA qc qm qo ca I J A L i a l9 o)) (hS : va_S (fun q : Nat => s.heap.size ≤ q) s.heap H locs) (hl : lv_has ls 8 [(4, .int (nI n)), (3, .ref qo), (2, .ref (qm 0)), (1, .ref (qc 0)), (0, .ref b)]) (hst : st_dew Rel I J A L i a l9 o (xs (n + 1))) (hnext : ∀ (I : Nat → Int32) (J : Nat → Int64) (A : Nat → Nat → Int32) (L : Nat → Nat → Int64) (i : Nat → Int32) (a : Nat → Nat → Int32) (l9 : Nat → Nat → Int64) (o : Nat → Int64) (H : Heap) (locs : List Loc) (ls : Array Slot), Rel I J A L i a l9 → va_P D vwCl (wA qc qm qo ca I J A L i a l9 o) H → va_D (fun q : Nat => s.heap.size ≤ q) (wA qc qm qo ca I J A L i a l9 o) → va_S (fun q : Nat => s.heap.size ≤ q) s.heap H locs → lv_has ls 8 [(4, .int (nI n)), (3, .ref qo), (2, .ref (qm 0)), (1, .ref (qc 0)), (0, .ref b)] → W p l e room_1 s m #[Value.ref b] below meth c H locs (400 + n + 1) (20000 + 6 * n + 6) (lw_Z below #[Value.ref b] s) (F0 m 1452 ls [])) : W p l e room_1 s m #[Value.ref b] below meth c H locs (400 + n) (20000 + 6 * n) (lw_Z below #[Value.ref b] s) (F0 m 761 ls []) := by
  obtain ⟨hx, hb, hr, hml, hown, hts0, hX, hbl, hlocks, hgv⟩ := C0
  have hts : ∀ w ∈ TT, w.before #[Value.ref b] s = true := fun w h => hts0 w (List.mem_filter.mp h).1
  have hA : ∀ q : Nat, s.heap.size ≤ q → (fun q : Nat => s.heap.size ≤ q) q := fun _ h => h
  have hbA : ¬ (fun q : Nat => s.heap.size ≤ q) b := Nat.not_le.mpr hbl
  have hown : s.vm.findClass nR_Law = some m.cls := hown
  have hev : xt_ev s H := k_evH hev0 hS
  unfold st_dew at hst
  rcases hst with ⟨R1, S0, S1, e1, e2, et, ea, hRel⟩ | ⟨S0, S1, e1, e2, et, hRel⟩
  ·
    refine lv_aload_n hx hb nd_Law_law_761 rfl (lv_at hl 3 rfl) ?_
    refine lv_aload_n hx hb nd_Law_law_762 rfl (lv_at hl 4 rfl) ?_
    refine lv_iload hx hb nd_Law_law_763 (lv_at hl 0 rfl) ?_
    refine lv_iconst (v := 1) hx hb nd_Law_law_765 (by decide) ?_
    refine lv_iadd hx hb nd_Law_law_766 ?_
    refine k_sld (n := n) (j := 1) hx hb hX hbl hbA hS (k_sidx rfl) (by omega) hL nd_Law_law_767 ?_
    refine lv_aload_n hx hb nd_Law_law_768 rfl (lv_at hl 1 rfl) ?_
    refine k_wSWI (wr := k_pick (wA qc qm qo ca I J A L i a l9 o) [3, 4, 6, 9, 10, 11, 12, 13, 14, 15, 16, 17, 18, 19, 20, 21, 22, 23, 24, 25, 26, 27, 28, 29, 30, 31, 32, 33, 34, 35, 36, 37, 38, 39, 40, 41, 42, 43, 44, 45, 46, 47, 48, 49, 50, 51, 52, 53, 54, 55, 56, 57, 58, 59, 60, 61, 62, 63, 64, 65, 66, 67, 68, 69, 70, 71, 72, 73, 74, 75, 76, 77, 78, 79, 80, 81, 82, 83, 84, 85, 86, 87]) (w2 := wA qc qm qo ca I J A L i a l9 R1) (As := [.ref (qc 0), .int (xs (n + 1)), .ref qo]) (rest := []) (r := 0) hx hb hml hown hts (cn_Law_dew l D ca (qc 0) (qc 1) (qc 19) (qc 34) (qc 47) (qc 48) (qc 58) (qc 2) (qc 5) (qc 9) (qc 13) (qc 6) (qc 7) (qc 8) (qc 3) (qc 4) qo (I 0) (I 3) (I 1) (I 2) (J 0) (J 1) (L 2) (A 1) o (xs (n + 1)) (0 : Int32) R1 e1 _) kc_Law_dew ks_Law_dew tt_561 ⟨by decide, by decide⟩ rfl rfl hP hK hD hS hA [0, 1, 5, 2, 8, 7, 88] [3, 4, 6, 9, 10, 11, 12, 13, 14, 15, 16, 17, 18, 19, 20, 21, 22, 23, 24, 25, 26, 27, 28, 29, 30, 31, 32, 33, 34, 35, 36, 37, 38, 39, 40, 41, 42, 43, 44, 45, 46, 47, 48, 49, 50, 51, 52, 53, 54, 55, 56, 57, 58, 59, 60, 61, 62, 63, 64, 65, 66, 67, 68, 69, 70, 71, 72, 73, 74, 75, 76, 77, 78, 79, 80, 81, 82, 83, 84, 85, 86, 87] [82, 83, 85, 0, 1, 84, 2, 87, 86, 3, 4, 5, 6, 7, 8, 9, 10, 11, 12, 13, 14, 15, 16, 17, 18, 19, 20, 21, 22, 23, 24, 25, 26, 27, 28, 29, 30, 31, 32, 33, 34, 35, 36, 37, 38, 39, 40, 41, 42, 43, 44, 45, 46, 47, 48, 49, 50, 51, 52, 53, 54, 55, 56, 57, 58, 59, 60, 61, 62, 63, 64, 65, 66, 67, 68, 69, 70, 71, 72, 73, 74, 75, 76, 77, 78, 79, 80, 81, 88] rfl (by decide) rfl (by decide) (by decide) rfl (by decide) rfl hl.1 (Nat.le_of_ble_eq_true rfl) rfl nd_Law_law_769 ⟨by show _ ≤ 601024; omega, by show _ ≤ 7293034; omega⟩ (fun H locs hP hD hS => ?_)
    refine W.widen (k := 400 + n) (n := 20000 + 6 * n) (by omega) (by omega) ?_
    refine lv_istore (lv' := [(5, .int 0), (4, .int (nI n)), (3, .ref qo), (2, .ref (qm 0)), (1, .ref (qc 0)), (0, .ref b)]) hx hb nd_Law_law_772 hl (by decide) rfl (fun ls hl => ?_)
    refine lv_aload_n hx hb nd_Law_law_774 rfl (lv_at hl 3 rfl) ?_
    refine lv_aload_n hx hb nd_Law_law_775 rfl (lv_at hl 5 rfl) ?_
    refine lv_iload hx hb nd_Law_law_776 (lv_at hl 1 rfl) ?_
    refine lv_iconst (v := 1) hx hb nd_Law_law_778 (by decide) ?_
    refine lv_iadd hx hb nd_Law_law_779 ?_
    refine k_sld (n := n) (j := 1) hx hb hX hbl hbA hS (k_sidx rfl) (by omega) hL nd_Law_law_780 ?_
    refine k_wVI (wr := k_pick (wA qc qm qo ca I J A L i a l9 R1) [0, 1, 2, 3, 4, 5, 6, 7, 8, 9, 10, 11, 12, 13, 14, 15, 16, 17, 18, 19, 20, 21, 22, 23, 24, 25, 26, 27, 28, 29, 30, 31, 32, 33, 34, 35, 36, 37, 38, 39, 40, 41, 42, 43, 44, 45, 46, 47, 48, 49, 50, 51, 52, 53, 54, 55, 56, 57, 58, 59, 60, 61, 62, 65, 66, 67, 68, 70, 71, 72, 73, 74, 75, 76, 77, 78, 79, 80, 81, 82, 83, 84, 85, 86, 87, 88]) (w2 := wA qc qm qo ca I J A L (va_up i 0 S1) a l9 R1) (As := [.int (xs (n + 1))]) (rest := []) (r := S0) hx hb hml hown hts (cn_Model_dew l D ca (qm 0) (qm 1) (qm 2) (qm 3) (qm 4) (qm 5) (qm 6) (qm 7) (qm 8) (qm 9) (qm 10) (qm 11) (qm 12) (qm 13) (qm 14) (qm 15) (qm 16) (qm 17) (qm 18) (qm 19) (qm 20) (qm 21) (qm 22) (qm 23) (qm 24) (i 0) (i 1) (i 2) (i 3) (i 4) (i 5) (i 6) (i 7) (l9 0) (a 1) (xs (n + 1)) S0 S1 e2 _) kc_Model_dew kv_Model_dew tt_948 ⟨by decide, by decide⟩ rfl rfl hP hK hD hS hA [63, 64, 69] [0, 1, 2, 3, 4, 5, 6, 7, 8, 9, 10, 11, 12, 13, 14, 15, 16, 17, 18, 19, 20, 21, 22, 23, 24, 25, 26, 27, 28, 29, 30, 31, 32, 33, 34, 35, 36, 37, 38, 39, 40, 41, 42, 43, 44, 45, 46, 47, 48, 49, 50, 51, 52, 53, 54, 55, 56, 57, 58, 59, 60, 61, 62, 65, 66, 67, 68, 70, 71, 72, 73, 74, 75, 76, 77, 78, 79, 80, 81, 82, 83, 84, 85, 86, 87, 88] [0, 1, 2, 3, 4, 5, 6, 7, 8, 9, 10, 11, 12, 13, 14, 15, 16, 17, 18, 19, 20, 21, 22, 23, 24, 25, 26, 27, 28, 29, 30, 31, 32, 33, 34, 35, 36, 37, 38, 39, 40, 41, 42, 43, 44, 45, 46, 47, 48, 49, 50, 51, 52, 53, 54, 55, 56, 57, 58, 59, 60, 61, 62, 86, 87, 63, 64, 65, 66, 88, 67, 68, 69, 70, 71, 72, 73, 74, 75, 76, 77, 78, 79, 80, 81, 82, 83, 84, 85] rfl (by decide) rfl (by decide) (by decide) rfl (by decide) 0 rfl rfl rfl rfl hl.1 (Nat.le_of_ble_eq_true rfl) rfl nd_Law_law_781 ⟨by show _ ≤ 601024; omega, by show _ ≤ 7293034; omega⟩ (fun H locs hP hD hS => ?_)
    refine lv_istore (lv' := [(6, .int S0), (5, .int 0), (4, .int (nI n)), (3, .ref qo), (2, .ref (qm 0)), (1, .ref (qc 0)), (0, .ref b)]) hx hb nd_Law_law_784 hl (by decide) rfl (fun ls hl => ?_)
    refine lv_aload_n hx hb nd_Law_law_786 rfl (lv_at hl 4 rfl) ?_
    refine k_rVI (As := []) (rest := []) (r := S1) hx hb hml hown hts (cn_Model_thrown l D ca (qm 0) (qm 1) (qm 2) (qm 3) (qm 4) (qm 5) (qm 6) (qm 7) (qm 8) (qm 9) (qm 10) (qm 11) (qm 12) (qm 13) (qm 14) (qm 15) (qm 16) (qm 17) (qm 18) (qm 19) (qm 20) (qm 21) (qm 22) (qm 23) (qm 24) ((va_up i 0 S1) 0) ((va_up i 0 S1) 1) ((va_up i 0 S1) 2) ((va_up i 0 S1) 3) ((va_up i 0 S1) 4) ((va_up i 0 S1) 5) ((va_up i 0 S1) 6) ((va_up i 0 S1) 7) S1 rfl) kc_Model_thrown kv_Model_thrown tt_820 ⟨by decide, by decide⟩ rfl rfl hP hK [63] rfl 0 rfl rfl rfl rfl hl.1 (Nat.le_of_ble_eq_true rfl) rfl nd_Law_law_787 ⟨by show _ ≤ 601024; omega, by show _ ≤ 7293034; omega⟩ ?_
    refine lv_iload hx hb nd_Law_law_790 (lv_at hl 1 rfl) ?_
    refine lv_icmp_eq (tgt := 797) hx hb nd_Law_law_792 (by decide) (fun c1 => ?_) (fun c1 => ?_)
    rotate_left
    · exact absurd et c1
    refine lv_iload hx hb nd_Law_law_797 (lv_at hl 1 rfl) ?_
    refine lv_if_ne (tgt := 821) hx hb nd_Law_law_799 (by decide) (fun c2 => ?_) (fun c2 => ?_)
    · exact absurd rfl c2
    refine lv_aload_n hx hb nd_Law_law_802 rfl (lv_at hl 3 rfl) ?_
    refine lv_iconst (v := 0) hx hb nd_Law_law_803 (by decide) ?_
    refine va_lald hx hb hK hP 88 1 rfl rfl (by unfold vp_in; decide) nd_Law_law_804 ?_
    refine lv_iload hx hb nd_Law_law_805 (lv_at hl 0 rfl) ?_
    refine lv_if_eq (tgt := 814) hx hb nd_Law_law_807 (by decide) (fun c3 => ?_) (fun c3 => ?_)
    ·
      refine lv_lconst (v := 0) hx hb nd_Law_law_814 (by decide) ?_
      refine W.lcmp hx hb nd_Law_law_815 ?_
      refine lv_if_eq (tgt := 821) hx hb nd_Law_law_816 (by decide) (fun c4 => ?_) (fun c4 => ?_)
      rotate_left
      · exact absurd (ea.1 c3) c4
      refine lv_goto (tgt := 1452) hx hb nd_Law_law_821 (by decide) ?_
      refine W.widen (k := 400 + n + 1) (n := 20000 + 6 * n + 6) (by omega) (by omega) ?_
      exact hnext _ _ _ _ _ _ _ _ _ _ _ hRel hP hD hS (lv_sub hl [2, 3, 4, 5, 6] rfl)
    ·
      refine lv_lconst (v := 1) hx hb nd_Law_law_810 (by decide) ?_
      refine lv_goto (tgt := 815) hx hb nd_Law_law_811 (by decide) ?_
      refine W.lcmp hx hb nd_Law_law_815 ?_
      refine lv_if_eq (tgt := 821) hx hb nd_Law_law_816 (by decide) (fun c5 => ?_) (fun c5 => ?_)
      rotate_left
      · exact absurd (ea.2 c3) c5
      refine lv_goto (tgt := 1452) hx hb nd_Law_law_821 (by decide) ?_
      refine W.widen (k := 400 + n + 1) (n := 20000 + 6 * n + 6) (by omega) (by omega) ?_
      exact hnext _ _ _ _ _ _ _ _ _ _ _ hRel hP hD hS (lv_sub hl [2, 3, 4, 5, 6] rfl)
  ·
    refine lv_aload_n hx hb nd_Law_law_761 rfl (lv_at hl 3 rfl) ?_
    refine lv_aload_n hx hb nd_Law_law_762 rfl (lv_at hl 4 rfl) ?_
    refine lv_iload hx hb nd_Law_law_763 (lv_at hl 0 rfl) ?_
    refine lv_iconst (v := 1) hx hb nd_Law_law_765 (by decide) ?_
    refine lv_iadd hx hb nd_Law_law_766 ?_
    refine k_sld (n := n) (j := 1) hx hb hX hbl hbA hS (k_sidx rfl) (by omega) hL nd_Law_law_767 ?_
    refine lv_aload_n hx hb nd_Law_law_768 rfl (lv_at hl 1 rfl) ?_
    refine k_wSWX (wr := k_pick (wA qc qm qo ca I J A L i a l9 o) [3, 4, 6, 9, 10, 11, 12, 13, 14, 15, 16, 17, 18, 19, 20, 21, 22, 23, 24, 25, 26, 27, 28, 29, 30, 31, 32, 33, 34, 35, 36, 37, 38, 39, 40, 41, 42, 43, 44, 45, 46, 47, 48, 49, 50, 51, 52, 53, 54, 55, 56, 57, 58, 59, 60, 61, 62, 63, 64, 65, 66, 67, 68, 69, 70, 71, 72, 73, 74, 75, 76, 77, 78, 79, 80, 81, 82, 83, 84, 85, 86, 87]) (w2 := wA qc qm qo ca I J A L i a l9 o) (As := [.ref (qc 0), .int (xs (n + 1)), .ref qo]) (rest := []) (r := 1) hx hb hml hown hts (hx_Law_dew_1 l hlt D ca (qc 0) (qc 1) (qc 19) (qc 34) (qc 47) (qc 48) (qc 58) (qc 2) (qc 5) (qc 9) (qc 13) (qc 6) (qc 7) (qc 8) (qc 3) (qc 4) qo (I 0) (I 3) (I 1) (I 2) (J 0) (J 1) (L 2) (A 1) o (xs (n + 1)) e1 _) kc_Law_dew ks_Law_dew tt_561 ⟨by decide, by decide⟩ rfl rfl hP hK hD hS hA hev [0, 1, 5, 2, 8, 7, 88] [3, 4, 6, 9, 10, 11, 12, 13, 14, 15, 16, 17, 18, 19, 20, 21, 22, 23, 24, 25, 26, 27, 28, 29, 30, 31, 32, 33, 34, 35, 36, 37, 38, 39, 40, 41, 42, 43, 44, 45, 46, 47, 48, 49, 50, 51, 52, 53, 54, 55, 56, 57, 58, 59, 60, 61, 62, 63, 64, 65, 66, 67, 68, 69, 70, 71, 72, 73, 74, 75, 76, 77, 78, 79, 80, 81, 82, 83, 84, 85, 86, 87] [82, 83, 85, 0, 1, 84, 2, 87, 86, 3, 4, 5, 6, 7, 8, 9, 10, 11, 12, 13, 14, 15, 16, 17, 18, 19, 20, 21, 22, 23, 24, 25, 26, 27, 28, 29, 30, 31, 32, 33, 34, 35, 36, 37, 38, 39, 40, 41, 42, 43, 44, 45, 46, 47, 48, 49, 50, 51, 52, 53, 54, 55, 56, 57, 58, 59, 60, 61, 62, 63, 64, 65, 66, 67, 68, 69, 70, 71, 72, 73, 74, 75, 76, 77, 78, 79, 80, 81, 88] rfl (by decide) rfl (by decide) (by decide) rfl (by decide) rfl hl.1 (Nat.le_of_ble_eq_true rfl) rfl nd_Law_law_769 ⟨by show _ ≤ 601024; omega, by show _ ≤ 7293034; omega⟩ (fun H locs hP hD hS => ?_)
    refine W.widen (k := 400 + n + 1) (n := 20000 + 6 * n + 6) (by omega) (by omega) ?_
    refine lv_istore (lv' := [(5, .int 1), (4, .int (nI n)), (3, .ref qo), (2, .ref (qm 0)), (1, .ref (qc 0)), (0, .ref b)]) hx hb nd_Law_law_772 hl (by decide) rfl (fun ls hl => ?_)
    refine lv_aload_n hx hb nd_Law_law_774 rfl (lv_at hl 3 rfl) ?_
    refine lv_aload_n hx hb nd_Law_law_775 rfl (lv_at hl 5 rfl) ?_
    refine lv_iload hx hb nd_Law_law_776 (lv_at hl 1 rfl) ?_
    refine lv_iconst (v := 1) hx hb nd_Law_law_778 (by decide) ?_
    refine lv_iadd hx hb nd_Law_law_779 ?_
    refine k_sld (n := n) (j := 1) hx hb hX hbl hbA hS (k_sidx rfl) (by omega) hL nd_Law_law_780 ?_
    refine k_wVI (wr := k_pick (wA qc qm qo ca I J A L i a l9 o) [0, 1, 2, 3, 4, 5, 6, 7, 8, 9, 10, 11, 12, 13, 14, 15, 16, 17, 18, 19, 20, 21, 22, 23, 24, 25, 26, 27, 28, 29, 30, 31, 32, 33, 34, 35, 36, 37, 38, 39, 40, 41, 42, 43, 44, 45, 46, 47, 48, 49, 50, 51, 52, 53, 54, 55, 56, 57, 58, 59, 60, 61, 62, 65, 66, 67, 68, 70, 71, 72, 73, 74, 75, 76, 77, 78, 79, 80, 81, 82, 83, 84, 85, 86, 87, 88]) (w2 := wA qc qm qo ca I J A L (va_up i 0 S1) a l9 o) (As := [.int (xs (n + 1))]) (rest := []) (r := S0) hx hb hml hown hts (cn_Model_dew l D ca (qm 0) (qm 1) (qm 2) (qm 3) (qm 4) (qm 5) (qm 6) (qm 7) (qm 8) (qm 9) (qm 10) (qm 11) (qm 12) (qm 13) (qm 14) (qm 15) (qm 16) (qm 17) (qm 18) (qm 19) (qm 20) (qm 21) (qm 22) (qm 23) (qm 24) (i 0) (i 1) (i 2) (i 3) (i 4) (i 5) (i 6) (i 7) (l9 0) (a 1) (xs (n + 1)) S0 S1 e2 _) kc_Model_dew kv_Model_dew tt_948 ⟨by decide, by decide⟩ rfl rfl hP hK hD hS hA [63, 64, 69] [0, 1, 2, 3, 4, 5, 6, 7, 8, 9, 10, 11, 12, 13, 14, 15, 16, 17, 18, 19, 20, 21, 22, 23, 24, 25, 26, 27, 28, 29, 30, 31, 32, 33, 34, 35, 36, 37, 38, 39, 40, 41, 42, 43, 44, 45, 46, 47, 48, 49, 50, 51, 52, 53, 54, 55, 56, 57, 58, 59, 60, 61, 62, 65, 66, 67, 68, 70, 71, 72, 73, 74, 75, 76, 77, 78, 79, 80, 81, 82, 83, 84, 85, 86, 87, 88] [0, 1, 2, 3, 4, 5, 6, 7, 8, 9, 10, 11, 12, 13, 14, 15, 16, 17, 18, 19, 20, 21, 22, 23, 24, 25, 26, 27, 28, 29, 30, 31, 32, 33, 34, 35, 36, 37, 38, 39, 40, 41, 42, 43, 44, 45, 46, 47, 48, 49, 50, 51, 52, 53, 54, 55, 56, 57, 58, 59, 60, 61, 62, 86, 87, 63, 64, 65, 66, 88, 67, 68, 69, 70, 71, 72, 73, 74, 75, 76, 77, 78, 79, 80, 81, 82, 83, 84, 85] rfl (by decide) rfl (by decide) (by decide) rfl (by decide) 0 rfl rfl rfl rfl hl.1 (Nat.le_of_ble_eq_true rfl) rfl nd_Law_law_781 ⟨by show _ ≤ 601024; omega, by show _ ≤ 7293034; omega⟩ (fun H locs hP hD hS => ?_)
    refine lv_istore (lv' := [(6, .int S0), (5, .int 1), (4, .int (nI n)), (3, .ref qo), (2, .ref (qm 0)), (1, .ref (qc 0)), (0, .ref b)]) hx hb nd_Law_law_784 hl (by decide) rfl (fun ls hl => ?_)
    refine lv_aload_n hx hb nd_Law_law_786 rfl (lv_at hl 4 rfl) ?_
    refine k_rVI (As := []) (rest := []) (r := S1) hx hb hml hown hts (cn_Model_thrown l D ca (qm 0) (qm 1) (qm 2) (qm 3) (qm 4) (qm 5) (qm 6) (qm 7) (qm 8) (qm 9) (qm 10) (qm 11) (qm 12) (qm 13) (qm 14) (qm 15) (qm 16) (qm 17) (qm 18) (qm 19) (qm 20) (qm 21) (qm 22) (qm 23) (qm 24) ((va_up i 0 S1) 0) ((va_up i 0 S1) 1) ((va_up i 0 S1) 2) ((va_up i 0 S1) 3) ((va_up i 0 S1) 4) ((va_up i 0 S1) 5) ((va_up i 0 S1) 6) ((va_up i 0 S1) 7) S1 rfl) kc_Model_thrown kv_Model_thrown tt_820 ⟨by decide, by decide⟩ rfl rfl hP hK [63] rfl 0 rfl rfl rfl rfl hl.1 (Nat.le_of_ble_eq_true rfl) rfl nd_Law_law_787 ⟨by show _ ≤ 601024; omega, by show _ ≤ 7293034; omega⟩ ?_
    refine lv_iload hx hb nd_Law_law_790 (lv_at hl 1 rfl) ?_
    refine lv_icmp_eq (tgt := 797) hx hb nd_Law_law_792 (by decide) (fun c6 => ?_) (fun c6 => ?_)
    rotate_left
    · exact absurd et c6
    refine lv_iload hx hb nd_Law_law_797 (lv_at hl 1 rfl) ?_
    refine lv_if_ne (tgt := 821) hx hb nd_Law_law_799 (by decide) (fun c7 => ?_) (fun c7 => ?_)
    rotate_left
    · exact absurd c7 (by decide)
    refine lv_goto (tgt := 1452) hx hb nd_Law_law_821 (by decide) ?_
    refine W.widen (k := 400 + n + 1) (n := 20000 + 6 * n + 6) (by omega) (by omega) ?_
    exact hnext _ _ _ _ _ _ _ _ _ _ _ hRel hP hD hS (lv_sub hl [2, 3, 4, 5, 6] rfl)
set_option maxHeartbeats 8000000 in
set_option maxRecDepth 100000 in
theorem lc_risk {p : Program} {l : Launch} {e : Env} {s : State} {m : MethodId} {below : List Frame} {meth : Method} {c : Code} {D : va_G} {ca : Nat → ClassId} {b Ls : Nat} {xs : Nat → Int32} (C0 : lw_At p s m meth c b Ls xs) (hL : Ls ≤ 2560) (hlt : l.stackTraces = false) (hev0 : xt_ev s s.heap) (hK : va_K D vwCl (tyG ca) s) {Rel : (Nat → Int32) → (Nat → Int64) → (Nat → Nat → Int32) → (Nat → Nat → Int64) → (Nat → Int32) → (Nat → Nat → Int32) → (Nat → Nat → Int64) → Prop} {qc qm : Nat → Nat} {qo : Nat} {I : Nat → Int32} {J : Nat → Int64} {A : Nat → Nat → Int32} {L : Nat → Nat → Int64} {i : Nat → Int32} {a : Nat → Nat → Int32} {l9 : Nat → Nat → Int64} {o : Nat → Int64} {n : Nat} (hn : n + 5 ≤ Ls) {H : Heap} {locs : List Loc} {ls : Array Slot} (hP : va_P D vwCl (wA qc qm qo ca I J A L i a l9 o) H) (hD : va_D (fun q : Nat => s.heap.size ≤ q) (wA qc qm qo ca I J A L i a l9 o)) (hS : va_S (fun q : Nat => s.heap.size ≤ q) s.heap H locs) (hl : lv_has ls 8 [(4, .int (nI n)), (3, .ref qo), (2, .ref (qm 0)), (1, .ref (qc 0)), (0, .ref b)]) (hst : st_risk Rel I J A L i a l9 o (xs (n + 1)) (xs (n + 2)) (xs (n + 3))) (hnext : ∀ (I : Nat → Int32) (J : Nat → Int64) (A : Nat → Nat → Int32) (L : Nat → Nat → Int64) (i : Nat → Int32) (a : Nat → Nat → Int32) (l9 : Nat → Nat → Int64) (o : Nat → Int64) (H : Heap) (locs : List Loc) (ls : Array Slot), Rel I J A L i a l9 → va_P D vwCl (wA qc qm qo ca I J A L i a l9 o) H → va_D (fun q : Nat => s.heap.size ≤ q) (wA qc qm qo ca I J A L i a l9 o) → va_S (fun q : Nat => s.heap.size ≤ q) s.heap H locs → lv_has ls 8 [(4, .int (nI n)), (3, .ref qo), (2, .ref (qm 0)), (1, .ref (qc 0)), (0, .ref b)] → W p l e room_1 s m #[Value.ref b] below meth c H locs (400 + n + 1) (20000 + 6 * n + 6) (lw_Z below #[Value.ref b] s) (F0 m 1452 ls [])) : W p l e room_1 s m #[Value.ref b] below meth c H locs (400 + n) (20000 + 6 * n) (lw_Z below #[Value.ref b] s) (F0 m 824 ls []) := by
  obtain ⟨hx, hb, hr, hml, hown, hts0, hX, hbl, hlocks, hgv⟩ := C0
  have hts : ∀ w ∈ TT, w.before #[Value.ref b] s = true := fun w h => hts0 w (List.mem_filter.mp h).1
  have hA : ∀ q : Nat, s.heap.size ≤ q → (fun q : Nat => s.heap.size ≤ q) q := fun _ h => h
  have hbA : ¬ (fun q : Nat => s.heap.size ≤ q) b := Nat.not_le.mpr hbl
  have hown : s.vm.findClass nR_Law = some m.cls := hown
  have hev : xt_ev s H := k_evH hev0 hS
  unfold st_risk at hst
  rcases hst with ⟨R1, R2, R3, R4, R5, R6, R7, R8, R9, R10, R11, R12, R13, S0, S1, S2, S3, S4, e1, e2, et, ea, hRel⟩ | ⟨S0, S1, S2, S3, S4, e1, e2, et, hRel⟩ | ⟨S0, S1, S2, S3, S4, e1, e2, et, hRel⟩ | ⟨S0, S1, S2, S3, S4, e1, e2, et, hRel⟩
  ·
    refine lv_aload_n hx hb nd_Law_law_824 rfl (lv_at hl 3 rfl) ?_
    refine lv_aload_n hx hb nd_Law_law_825 rfl (lv_at hl 4 rfl) ?_
    refine lv_iload hx hb nd_Law_law_826 (lv_at hl 0 rfl) ?_
    refine lv_iconst (v := 1) hx hb nd_Law_law_828 (by decide) ?_
    refine lv_iadd hx hb nd_Law_law_829 ?_
    refine k_sld (n := n) (j := 1) hx hb hX hbl hbA hS (k_sidx rfl) (by omega) hL nd_Law_law_830 ?_
    refine lv_aload_n hx hb nd_Law_law_831 rfl (lv_at hl 4 rfl) ?_
    refine lv_iload hx hb nd_Law_law_832 (lv_at hl 0 rfl) ?_
    refine lv_iconst (v := 2) hx hb nd_Law_law_834 (by decide) ?_
    refine lv_iadd hx hb nd_Law_law_835 ?_
    refine k_sld (n := n) (j := 2) hx hb hX hbl hbA hS (k_sidx rfl) (by omega) hL nd_Law_law_836 ?_
    refine lv_aload_n hx hb nd_Law_law_837 rfl (lv_at hl 4 rfl) ?_
    refine lv_iload hx hb nd_Law_law_838 (lv_at hl 0 rfl) ?_
    refine lv_iconst (v := 3) hx hb nd_Law_law_840 (by decide) ?_
    refine lv_iadd hx hb nd_Law_law_841 ?_
    refine k_sld (n := n) (j := 3) hx hb hX hbl hbA hS (k_sidx rfl) (by omega) hL nd_Law_law_842 ?_
    refine lv_aload_n hx hb nd_Law_law_843 rfl (lv_at hl 1 rfl) ?_
    refine k_wSWI (wr := k_pick (wA qc qm qo ca I J A L i a l9 o) [1, 2, 3, 4, 5, 6, 7, 8, 9, 10, 11, 12, 13, 14, 15, 16, 17, 18, 19, 20, 21, 22, 23, 24, 25, 26, 27, 28, 29, 30, 31, 32, 33, 47, 48, 49, 50, 51, 52, 53, 54, 55, 56, 57, 58, 59, 60, 61, 62, 63, 64, 65, 66, 67, 68, 69, 70, 71, 72, 73, 74, 75, 76, 77, 78, 79, 80, 81, 82, 83, 84, 85, 86, 87]) (w2 := wA qc qm qo ca (va_up (va_up (va_up (va_up I 10 R3) 11 R6) 12 R9) 13 R12) J (va_up (va_up (va_up (va_up (va_up (va_up (va_up (va_up A 16 R1) 17 R2) 18 R4) 19 R5) 20 R7) 21 R8) 22 R10) 23 R11) L i a l9 R13) (As := [.ref (qc 0), .int (xs (n + 1)), .int (xs (n + 2)), .int (xs (n + 3)), .ref qo]) (rest := []) (r := 0) hx hb hml hown hts (cn_Law_risk l D ca (qc 0) (qc 1) (qc 19) (qc 34) (qc 47) (qc 48) (qc 58) (qc 35) (qc 38) (qc 41) (qc 44) (qc 36) (qc 37) (qc 39) (qc 40) (qc 42) (qc 43) (qc 45) (qc 46) qo (I 0) (I 10) (A 16) (A 17) (I 11) (A 18) (A 19) (I 12) (A 20) (A 21) (I 13) (A 22) (A 23) o (xs (n + 1)) (xs (n + 2)) (xs (n + 3)) (0 : Int32) R1 R2 R3 R4 R5 R6 R7 R8 R9 R10 R11 R12 R13 e1 _) kc_Law_risk ks_Law_risk tt_571 ⟨by decide, by decide⟩ rfl rfl hP hK hD hS hA [0, 34, 35, 36, 37, 38, 39, 40, 41, 42, 43, 44, 45, 46, 88] [1, 2, 3, 4, 5, 6, 7, 8, 9, 10, 11, 12, 13, 14, 15, 16, 17, 18, 19, 20, 21, 22, 23, 24, 25, 26, 27, 28, 29, 30, 31, 32, 33, 47, 48, 49, 50, 51, 52, 53, 54, 55, 56, 57, 58, 59, 60, 61, 62, 63, 64, 65, 66, 67, 68, 69, 70, 71, 72, 73, 74, 75, 76, 77, 78, 79, 80, 81, 82, 83, 84, 85, 86, 87] [74, 0, 1, 2, 3, 4, 5, 6, 7, 8, 9, 10, 11, 12, 13, 14, 15, 16, 17, 18, 19, 20, 21, 22, 23, 24, 25, 26, 27, 28, 29, 30, 31, 32, 75, 76, 77, 78, 79, 80, 81, 82, 83, 84, 85, 86, 87, 33, 34, 35, 36, 37, 38, 39, 40, 41, 42, 43, 44, 45, 46, 47, 48, 49, 50, 51, 52, 53, 54, 55, 56, 57, 58, 59, 60, 61, 62, 63, 64, 65, 66, 67, 68, 69, 70, 71, 72, 73, 88] rfl (by decide) rfl (by decide) (by decide) rfl (by decide) rfl hl.1 (Nat.le_of_ble_eq_true rfl) rfl nd_Law_law_844 ⟨by show _ ≤ 601024; omega, by show _ ≤ 7293034; omega⟩ (fun H locs hP hD hS => ?_)
    refine W.widen (k := 400 + n) (n := 20000 + 6 * n) (by omega) (by omega) ?_
    refine lv_istore (lv' := [(5, .int 0), (4, .int (nI n)), (3, .ref qo), (2, .ref (qm 0)), (1, .ref (qc 0)), (0, .ref b)]) hx hb nd_Law_law_847 hl (by decide) rfl (fun ls hl => ?_)
    refine lv_aload_n hx hb nd_Law_law_849 rfl (lv_at hl 3 rfl) ?_
    refine lv_aload_n hx hb nd_Law_law_850 rfl (lv_at hl 5 rfl) ?_
    refine lv_iload hx hb nd_Law_law_851 (lv_at hl 1 rfl) ?_
    refine lv_iconst (v := 1) hx hb nd_Law_law_853 (by decide) ?_
    refine lv_iadd hx hb nd_Law_law_854 ?_
    refine k_sld (n := n) (j := 1) hx hb hX hbl hbA hS (k_sidx rfl) (by omega) hL nd_Law_law_855 ?_
    refine lv_aload_n hx hb nd_Law_law_856 rfl (lv_at hl 5 rfl) ?_
    refine lv_iload hx hb nd_Law_law_857 (lv_at hl 1 rfl) ?_
    refine lv_iconst (v := 2) hx hb nd_Law_law_859 (by decide) ?_
    refine lv_iadd hx hb nd_Law_law_860 ?_
    refine k_sld (n := n) (j := 2) hx hb hX hbl hbA hS (k_sidx rfl) (by omega) hL nd_Law_law_861 ?_
    refine lv_aload_n hx hb nd_Law_law_862 rfl (lv_at hl 5 rfl) ?_
    refine lv_iload hx hb nd_Law_law_863 (lv_at hl 1 rfl) ?_
    refine lv_iconst (v := 3) hx hb nd_Law_law_865 (by decide) ?_
    refine lv_iadd hx hb nd_Law_law_866 ?_
    refine k_sld (n := n) (j := 3) hx hb hX hbl hbA hS (k_sidx rfl) (by omega) hL nd_Law_law_867 ?_
    refine k_wVI (wr := k_pick (wA qc qm qo ca (va_up (va_up (va_up (va_up I 10 R3) 11 R6) 12 R9) 13 R12) J (va_up (va_up (va_up (va_up (va_up (va_up (va_up (va_up A 16 R1) 17 R2) 18 R4) 19 R5) 20 R7) 21 R8) 22 R10) 23 R11) L i a l9 R13) [0, 1, 2, 3, 4, 5, 6, 7, 8, 9, 10, 11, 12, 13, 14, 15, 16, 17, 18, 19, 20, 21, 22, 23, 24, 25, 26, 27, 28, 29, 30, 31, 32, 33, 34, 35, 36, 37, 38, 39, 40, 41, 42, 43, 44, 45, 46, 47, 48, 49, 50, 51, 52, 53, 54, 55, 56, 57, 58, 59, 60, 61, 62, 64, 65, 66, 67, 68, 69, 70, 71, 72, 73, 74, 75, 79, 80, 81, 82, 83, 84, 85, 86, 87, 88]) (w2 := wA qc qm qo ca (va_up (va_up (va_up (va_up I 10 R3) 11 R6) 12 R9) 13 R12) J (va_up (va_up (va_up (va_up (va_up (va_up (va_up (va_up A 16 R1) 17 R2) 18 R4) 19 R5) 20 R7) 21 R8) 22 R10) 23 R11) L (va_up i 0 S1) (va_up (va_up (va_up a 9 S2) 10 S3) 8 S4) l9 R13) (As := [.int (xs (n + 1)), .int (xs (n + 2)), .int (xs (n + 3))]) (rest := []) (r := S0) hx hb hml hown hts (cn_Model_risk l D ca (qm 0) (qm 1) (qm 2) (qm 3) (qm 4) (qm 5) (qm 6) (qm 7) (qm 8) (qm 9) (qm 10) (qm 11) (qm 12) (qm 13) (qm 14) (qm 15) (qm 16) (qm 17) (qm 18) (qm 19) (qm 20) (qm 21) (qm 22) (qm 23) (qm 24) (i 0) (i 1) (i 2) (i 3) (i 4) (i 5) (i 6) (i 7) (a 8) (a 9) (a 10) (xs (n + 1)) (xs (n + 2)) (xs (n + 3)) S0 S1 S2 S3 S4 e2 _) kc_Model_risk kv_Model_risk tt_952 ⟨by decide, by decide⟩ rfl rfl hP hK hD hS hA [63, 76, 77, 78] [0, 1, 2, 3, 4, 5, 6, 7, 8, 9, 10, 11, 12, 13, 14, 15, 16, 17, 18, 19, 20, 21, 22, 23, 24, 25, 26, 27, 28, 29, 30, 31, 32, 33, 34, 35, 36, 37, 38, 39, 40, 41, 42, 43, 44, 45, 46, 47, 48, 49, 50, 51, 52, 53, 54, 55, 56, 57, 58, 59, 60, 61, 62, 64, 65, 66, 67, 68, 69, 70, 71, 72, 73, 74, 75, 79, 80, 81, 82, 83, 84, 85, 86, 87, 88] [0, 1, 2, 3, 4, 5, 6, 7, 8, 9, 10, 11, 12, 13, 14, 15, 16, 17, 18, 19, 20, 21, 22, 23, 24, 25, 26, 27, 28, 29, 30, 31, 32, 33, 34, 35, 36, 37, 38, 39, 40, 41, 42, 43, 44, 45, 46, 47, 48, 49, 50, 51, 52, 53, 54, 55, 56, 57, 58, 59, 60, 61, 62, 85, 63, 64, 65, 66, 67, 68, 69, 70, 71, 72, 73, 74, 86, 87, 88, 75, 76, 77, 78, 79, 80, 81, 82, 83, 84] rfl (by decide) rfl (by decide) (by decide) rfl (by decide) 0 rfl rfl rfl rfl hl.1 (Nat.le_of_ble_eq_true rfl) rfl nd_Law_law_868 ⟨by show _ ≤ 601024; omega, by show _ ≤ 7293034; omega⟩ (fun H locs hP hD hS => ?_)
    refine lv_istore (lv' := [(6, .int S0), (5, .int 0), (4, .int (nI n)), (3, .ref qo), (2, .ref (qm 0)), (1, .ref (qc 0)), (0, .ref b)]) hx hb nd_Law_law_871 hl (by decide) rfl (fun ls hl => ?_)
    refine lv_aload_n hx hb nd_Law_law_873 rfl (lv_at hl 4 rfl) ?_
    refine k_rVI (As := []) (rest := []) (r := S1) hx hb hml hown hts (cn_Model_thrown l D ca (qm 0) (qm 1) (qm 2) (qm 3) (qm 4) (qm 5) (qm 6) (qm 7) (qm 8) (qm 9) (qm 10) (qm 11) (qm 12) (qm 13) (qm 14) (qm 15) (qm 16) (qm 17) (qm 18) (qm 19) (qm 20) (qm 21) (qm 22) (qm 23) (qm 24) ((va_up i 0 S1) 0) ((va_up i 0 S1) 1) ((va_up i 0 S1) 2) ((va_up i 0 S1) 3) ((va_up i 0 S1) 4) ((va_up i 0 S1) 5) ((va_up i 0 S1) 6) ((va_up i 0 S1) 7) S1 rfl) kc_Model_thrown kv_Model_thrown tt_820 ⟨by decide, by decide⟩ rfl rfl hP hK [63] rfl 0 rfl rfl rfl rfl hl.1 (Nat.le_of_ble_eq_true rfl) rfl nd_Law_law_874 ⟨by show _ ≤ 601024; omega, by show _ ≤ 7293034; omega⟩ ?_
    refine lv_iload hx hb nd_Law_law_877 (lv_at hl 1 rfl) ?_
    refine lv_icmp_eq (tgt := 884) hx hb nd_Law_law_879 (by decide) (fun c1 => ?_) (fun c1 => ?_)
    rotate_left
    · exact absurd et c1
    refine lv_iload hx hb nd_Law_law_884 (lv_at hl 1 rfl) ?_
    refine lv_if_ne (tgt := 901) hx hb nd_Law_law_886 (by decide) (fun c2 => ?_) (fun c2 => ?_)
    · exact absurd rfl c2
    refine lv_aload_n hx hb nd_Law_law_889 rfl (lv_at hl 3 rfl) ?_
    refine lv_iconst (v := 0) hx hb nd_Law_law_890 (by decide) ?_
    refine va_lald hx hb hK hP 88 1 rfl rfl (by unfold vp_in; decide) nd_Law_law_891 ?_
    refine lv_iload hx hb nd_Law_law_892 (lv_at hl 0 rfl) ?_
    refine lv_i2l hx hb nd_Law_law_894 rfl ?_
    refine W.lcmp hx hb nd_Law_law_895 ?_
    refine lv_if_eq (tgt := 901) hx hb nd_Law_law_896 (by decide) (fun c3 => ?_) (fun c3 => ?_)
    rotate_left
    · exact absurd ea c3
    refine lv_goto (tgt := 1452) hx hb nd_Law_law_901 (by decide) ?_
    refine W.widen (k := 400 + n + 1) (n := 20000 + 6 * n + 6) (by omega) (by omega) ?_
    exact hnext _ _ _ _ _ _ _ _ _ _ _ hRel hP hD hS (lv_sub hl [2, 3, 4, 5, 6] rfl)
  ·
    refine lv_aload_n hx hb nd_Law_law_824 rfl (lv_at hl 3 rfl) ?_
    refine lv_aload_n hx hb nd_Law_law_825 rfl (lv_at hl 4 rfl) ?_
    refine lv_iload hx hb nd_Law_law_826 (lv_at hl 0 rfl) ?_
    refine lv_iconst (v := 1) hx hb nd_Law_law_828 (by decide) ?_
    refine lv_iadd hx hb nd_Law_law_829 ?_
    refine k_sld (n := n) (j := 1) hx hb hX hbl hbA hS (k_sidx rfl) (by omega) hL nd_Law_law_830 ?_
    refine lv_aload_n hx hb nd_Law_law_831 rfl (lv_at hl 4 rfl) ?_
    refine lv_iload hx hb nd_Law_law_832 (lv_at hl 0 rfl) ?_
    refine lv_iconst (v := 2) hx hb nd_Law_law_834 (by decide) ?_
    refine lv_iadd hx hb nd_Law_law_835 ?_
    refine k_sld (n := n) (j := 2) hx hb hX hbl hbA hS (k_sidx rfl) (by omega) hL nd_Law_law_836 ?_
    refine lv_aload_n hx hb nd_Law_law_837 rfl (lv_at hl 4 rfl) ?_
    refine lv_iload hx hb nd_Law_law_838 (lv_at hl 0 rfl) ?_
    refine lv_iconst (v := 3) hx hb nd_Law_law_840 (by decide) ?_
    refine lv_iadd hx hb nd_Law_law_841 ?_
    refine k_sld (n := n) (j := 3) hx hb hX hbl hbA hS (k_sidx rfl) (by omega) hL nd_Law_law_842 ?_
    refine lv_aload_n hx hb nd_Law_law_843 rfl (lv_at hl 1 rfl) ?_
    refine k_wSWX (wr := k_pick (wA qc qm qo ca I J A L i a l9 o) [1, 2, 3, 4, 5, 6, 7, 8, 9, 10, 11, 12, 13, 14, 15, 16, 17, 18, 19, 20, 21, 22, 23, 24, 25, 26, 27, 28, 29, 30, 31, 32, 33, 47, 48, 49, 50, 51, 52, 53, 54, 55, 56, 57, 58, 59, 60, 61, 62, 63, 64, 65, 66, 67, 68, 69, 70, 71, 72, 73, 74, 75, 76, 77, 78, 79, 80, 81, 82, 83, 84, 85, 86, 87]) (w2 := wA qc qm qo ca I J A L i a l9 o) (As := [.ref (qc 0), .int (xs (n + 1)), .int (xs (n + 2)), .int (xs (n + 3)), .ref qo]) (rest := []) (r := 1) hx hb hml hown hts (hx_Law_risk_1 l hlt D ca (qc 0) (qc 1) (qc 19) (qc 34) (qc 47) (qc 48) (qc 58) (qc 35) (qc 38) (qc 41) (qc 44) (qc 36) (qc 37) (qc 39) (qc 40) (qc 42) (qc 43) (qc 45) (qc 46) qo (I 0) (I 10) (A 16) (A 17) (I 11) (A 18) (A 19) (I 12) (A 20) (A 21) (I 13) (A 22) (A 23) o (xs (n + 1)) (xs (n + 2)) (xs (n + 3)) e1 _) kc_Law_risk ks_Law_risk tt_571 ⟨by decide, by decide⟩ rfl rfl hP hK hD hS hA hev [0, 34, 35, 36, 37, 38, 39, 40, 41, 42, 43, 44, 45, 46, 88] [1, 2, 3, 4, 5, 6, 7, 8, 9, 10, 11, 12, 13, 14, 15, 16, 17, 18, 19, 20, 21, 22, 23, 24, 25, 26, 27, 28, 29, 30, 31, 32, 33, 47, 48, 49, 50, 51, 52, 53, 54, 55, 56, 57, 58, 59, 60, 61, 62, 63, 64, 65, 66, 67, 68, 69, 70, 71, 72, 73, 74, 75, 76, 77, 78, 79, 80, 81, 82, 83, 84, 85, 86, 87] [74, 0, 1, 2, 3, 4, 5, 6, 7, 8, 9, 10, 11, 12, 13, 14, 15, 16, 17, 18, 19, 20, 21, 22, 23, 24, 25, 26, 27, 28, 29, 30, 31, 32, 75, 76, 77, 78, 79, 80, 81, 82, 83, 84, 85, 86, 87, 33, 34, 35, 36, 37, 38, 39, 40, 41, 42, 43, 44, 45, 46, 47, 48, 49, 50, 51, 52, 53, 54, 55, 56, 57, 58, 59, 60, 61, 62, 63, 64, 65, 66, 67, 68, 69, 70, 71, 72, 73, 88] rfl (by decide) rfl (by decide) (by decide) rfl (by decide) rfl hl.1 (Nat.le_of_ble_eq_true rfl) rfl nd_Law_law_844 ⟨by show _ ≤ 601024; omega, by show _ ≤ 7293034; omega⟩ (fun H locs hP hD hS => ?_)
    refine W.widen (k := 400 + n + 1) (n := 20000 + 6 * n + 6) (by omega) (by omega) ?_
    refine lv_istore (lv' := [(5, .int 1), (4, .int (nI n)), (3, .ref qo), (2, .ref (qm 0)), (1, .ref (qc 0)), (0, .ref b)]) hx hb nd_Law_law_847 hl (by decide) rfl (fun ls hl => ?_)
    refine lv_aload_n hx hb nd_Law_law_849 rfl (lv_at hl 3 rfl) ?_
    refine lv_aload_n hx hb nd_Law_law_850 rfl (lv_at hl 5 rfl) ?_
    refine lv_iload hx hb nd_Law_law_851 (lv_at hl 1 rfl) ?_
    refine lv_iconst (v := 1) hx hb nd_Law_law_853 (by decide) ?_
    refine lv_iadd hx hb nd_Law_law_854 ?_
    refine k_sld (n := n) (j := 1) hx hb hX hbl hbA hS (k_sidx rfl) (by omega) hL nd_Law_law_855 ?_
    refine lv_aload_n hx hb nd_Law_law_856 rfl (lv_at hl 5 rfl) ?_
    refine lv_iload hx hb nd_Law_law_857 (lv_at hl 1 rfl) ?_
    refine lv_iconst (v := 2) hx hb nd_Law_law_859 (by decide) ?_
    refine lv_iadd hx hb nd_Law_law_860 ?_
    refine k_sld (n := n) (j := 2) hx hb hX hbl hbA hS (k_sidx rfl) (by omega) hL nd_Law_law_861 ?_
    refine lv_aload_n hx hb nd_Law_law_862 rfl (lv_at hl 5 rfl) ?_
    refine lv_iload hx hb nd_Law_law_863 (lv_at hl 1 rfl) ?_
    refine lv_iconst (v := 3) hx hb nd_Law_law_865 (by decide) ?_
    refine lv_iadd hx hb nd_Law_law_866 ?_
    refine k_sld (n := n) (j := 3) hx hb hX hbl hbA hS (k_sidx rfl) (by omega) hL nd_Law_law_867 ?_
    refine k_wVI (wr := k_pick (wA qc qm qo ca I J A L i a l9 o) [0, 1, 2, 3, 4, 5, 6, 7, 8, 9, 10, 11, 12, 13, 14, 15, 16, 17, 18, 19, 20, 21, 22, 23, 24, 25, 26, 27, 28, 29, 30, 31, 32, 33, 34, 35, 36, 37, 38, 39, 40, 41, 42, 43, 44, 45, 46, 47, 48, 49, 50, 51, 52, 53, 54, 55, 56, 57, 58, 59, 60, 61, 62, 64, 65, 66, 67, 68, 69, 70, 71, 72, 73, 74, 75, 79, 80, 81, 82, 83, 84, 85, 86, 87, 88]) (w2 := wA qc qm qo ca I J A L (va_up i 0 S1) (va_up (va_up (va_up a 9 S2) 10 S3) 8 S4) l9 o) (As := [.int (xs (n + 1)), .int (xs (n + 2)), .int (xs (n + 3))]) (rest := []) (r := S0) hx hb hml hown hts (cn_Model_risk l D ca (qm 0) (qm 1) (qm 2) (qm 3) (qm 4) (qm 5) (qm 6) (qm 7) (qm 8) (qm 9) (qm 10) (qm 11) (qm 12) (qm 13) (qm 14) (qm 15) (qm 16) (qm 17) (qm 18) (qm 19) (qm 20) (qm 21) (qm 22) (qm 23) (qm 24) (i 0) (i 1) (i 2) (i 3) (i 4) (i 5) (i 6) (i 7) (a 8) (a 9) (a 10) (xs (n + 1)) (xs (n + 2)) (xs (n + 3)) S0 S1 S2 S3 S4 e2 _) kc_Model_risk kv_Model_risk tt_952 ⟨by decide, by decide⟩ rfl rfl hP hK hD hS hA [63, 76, 77, 78] [0, 1, 2, 3, 4, 5, 6, 7, 8, 9, 10, 11, 12, 13, 14, 15, 16, 17, 18, 19, 20, 21, 22, 23, 24, 25, 26, 27, 28, 29, 30, 31, 32, 33, 34, 35, 36, 37, 38, 39, 40, 41, 42, 43, 44, 45, 46, 47, 48, 49, 50, 51, 52, 53, 54, 55, 56, 57, 58, 59, 60, 61, 62, 64, 65, 66, 67, 68, 69, 70, 71, 72, 73, 74, 75, 79, 80, 81, 82, 83, 84, 85, 86, 87, 88] [0, 1, 2, 3, 4, 5, 6, 7, 8, 9, 10, 11, 12, 13, 14, 15, 16, 17, 18, 19, 20, 21, 22, 23, 24, 25, 26, 27, 28, 29, 30, 31, 32, 33, 34, 35, 36, 37, 38, 39, 40, 41, 42, 43, 44, 45, 46, 47, 48, 49, 50, 51, 52, 53, 54, 55, 56, 57, 58, 59, 60, 61, 62, 85, 63, 64, 65, 66, 67, 68, 69, 70, 71, 72, 73, 74, 86, 87, 88, 75, 76, 77, 78, 79, 80, 81, 82, 83, 84] rfl (by decide) rfl (by decide) (by decide) rfl (by decide) 0 rfl rfl rfl rfl hl.1 (Nat.le_of_ble_eq_true rfl) rfl nd_Law_law_868 ⟨by show _ ≤ 601024; omega, by show _ ≤ 7293034; omega⟩ (fun H locs hP hD hS => ?_)
    refine lv_istore (lv' := [(6, .int S0), (5, .int 1), (4, .int (nI n)), (3, .ref qo), (2, .ref (qm 0)), (1, .ref (qc 0)), (0, .ref b)]) hx hb nd_Law_law_871 hl (by decide) rfl (fun ls hl => ?_)
    refine lv_aload_n hx hb nd_Law_law_873 rfl (lv_at hl 4 rfl) ?_
    refine k_rVI (As := []) (rest := []) (r := S1) hx hb hml hown hts (cn_Model_thrown l D ca (qm 0) (qm 1) (qm 2) (qm 3) (qm 4) (qm 5) (qm 6) (qm 7) (qm 8) (qm 9) (qm 10) (qm 11) (qm 12) (qm 13) (qm 14) (qm 15) (qm 16) (qm 17) (qm 18) (qm 19) (qm 20) (qm 21) (qm 22) (qm 23) (qm 24) ((va_up i 0 S1) 0) ((va_up i 0 S1) 1) ((va_up i 0 S1) 2) ((va_up i 0 S1) 3) ((va_up i 0 S1) 4) ((va_up i 0 S1) 5) ((va_up i 0 S1) 6) ((va_up i 0 S1) 7) S1 rfl) kc_Model_thrown kv_Model_thrown tt_820 ⟨by decide, by decide⟩ rfl rfl hP hK [63] rfl 0 rfl rfl rfl rfl hl.1 (Nat.le_of_ble_eq_true rfl) rfl nd_Law_law_874 ⟨by show _ ≤ 601024; omega, by show _ ≤ 7293034; omega⟩ ?_
    refine lv_iload hx hb nd_Law_law_877 (lv_at hl 1 rfl) ?_
    refine lv_icmp_eq (tgt := 884) hx hb nd_Law_law_879 (by decide) (fun c4 => ?_) (fun c4 => ?_)
    rotate_left
    · exact absurd et c4
    refine lv_iload hx hb nd_Law_law_884 (lv_at hl 1 rfl) ?_
    refine lv_if_ne (tgt := 901) hx hb nd_Law_law_886 (by decide) (fun c5 => ?_) (fun c5 => ?_)
    rotate_left
    · exact absurd c5 (by decide)
    refine lv_goto (tgt := 1452) hx hb nd_Law_law_901 (by decide) ?_
    refine W.widen (k := 400 + n + 1) (n := 20000 + 6 * n + 6) (by omega) (by omega) ?_
    exact hnext _ _ _ _ _ _ _ _ _ _ _ hRel hP hD hS (lv_sub hl [2, 3, 4, 5, 6] rfl)
  ·
    refine lv_aload_n hx hb nd_Law_law_824 rfl (lv_at hl 3 rfl) ?_
    refine lv_aload_n hx hb nd_Law_law_825 rfl (lv_at hl 4 rfl) ?_
    refine lv_iload hx hb nd_Law_law_826 (lv_at hl 0 rfl) ?_
    refine lv_iconst (v := 1) hx hb nd_Law_law_828 (by decide) ?_
    refine lv_iadd hx hb nd_Law_law_829 ?_
    refine k_sld (n := n) (j := 1) hx hb hX hbl hbA hS (k_sidx rfl) (by omega) hL nd_Law_law_830 ?_
    refine lv_aload_n hx hb nd_Law_law_831 rfl (lv_at hl 4 rfl) ?_
    refine lv_iload hx hb nd_Law_law_832 (lv_at hl 0 rfl) ?_
    refine lv_iconst (v := 2) hx hb nd_Law_law_834 (by decide) ?_
    refine lv_iadd hx hb nd_Law_law_835 ?_
    refine k_sld (n := n) (j := 2) hx hb hX hbl hbA hS (k_sidx rfl) (by omega) hL nd_Law_law_836 ?_
    refine lv_aload_n hx hb nd_Law_law_837 rfl (lv_at hl 4 rfl) ?_
    refine lv_iload hx hb nd_Law_law_838 (lv_at hl 0 rfl) ?_
    refine lv_iconst (v := 3) hx hb nd_Law_law_840 (by decide) ?_
    refine lv_iadd hx hb nd_Law_law_841 ?_
    refine k_sld (n := n) (j := 3) hx hb hX hbl hbA hS (k_sidx rfl) (by omega) hL nd_Law_law_842 ?_
    refine lv_aload_n hx hb nd_Law_law_843 rfl (lv_at hl 1 rfl) ?_
    refine k_wSWX (wr := k_pick (wA qc qm qo ca I J A L i a l9 o) [1, 2, 3, 4, 5, 6, 7, 8, 9, 10, 11, 12, 13, 14, 15, 16, 17, 18, 19, 20, 21, 22, 23, 24, 25, 26, 27, 28, 29, 30, 31, 32, 33, 47, 48, 49, 50, 51, 52, 53, 54, 55, 56, 57, 58, 59, 60, 61, 62, 63, 64, 65, 66, 67, 68, 69, 70, 71, 72, 73, 74, 75, 76, 77, 78, 79, 80, 81, 82, 83, 84, 85, 86, 87]) (w2 := wA qc qm qo ca I J A L i a l9 o) (As := [.ref (qc 0), .int (xs (n + 1)), .int (xs (n + 2)), .int (xs (n + 3)), .ref qo]) (rest := []) (r := 2) hx hb hml hown hts (hx_Law_risk_2 l hlt D ca (qc 0) (qc 1) (qc 19) (qc 34) (qc 47) (qc 48) (qc 58) (qc 35) (qc 38) (qc 41) (qc 44) (qc 36) (qc 37) (qc 39) (qc 40) (qc 42) (qc 43) (qc 45) (qc 46) qo (I 0) (I 10) (A 16) (A 17) (I 11) (A 18) (A 19) (I 12) (A 20) (A 21) (I 13) (A 22) (A 23) o (xs (n + 1)) (xs (n + 2)) (xs (n + 3)) e1 _) kc_Law_risk ks_Law_risk tt_571 ⟨by decide, by decide⟩ rfl rfl hP hK hD hS hA hev [0, 34, 35, 36, 37, 38, 39, 40, 41, 42, 43, 44, 45, 46, 88] [1, 2, 3, 4, 5, 6, 7, 8, 9, 10, 11, 12, 13, 14, 15, 16, 17, 18, 19, 20, 21, 22, 23, 24, 25, 26, 27, 28, 29, 30, 31, 32, 33, 47, 48, 49, 50, 51, 52, 53, 54, 55, 56, 57, 58, 59, 60, 61, 62, 63, 64, 65, 66, 67, 68, 69, 70, 71, 72, 73, 74, 75, 76, 77, 78, 79, 80, 81, 82, 83, 84, 85, 86, 87] [74, 0, 1, 2, 3, 4, 5, 6, 7, 8, 9, 10, 11, 12, 13, 14, 15, 16, 17, 18, 19, 20, 21, 22, 23, 24, 25, 26, 27, 28, 29, 30, 31, 32, 75, 76, 77, 78, 79, 80, 81, 82, 83, 84, 85, 86, 87, 33, 34, 35, 36, 37, 38, 39, 40, 41, 42, 43, 44, 45, 46, 47, 48, 49, 50, 51, 52, 53, 54, 55, 56, 57, 58, 59, 60, 61, 62, 63, 64, 65, 66, 67, 68, 69, 70, 71, 72, 73, 88] rfl (by decide) rfl (by decide) (by decide) rfl (by decide) rfl hl.1 (Nat.le_of_ble_eq_true rfl) rfl nd_Law_law_844 ⟨by show _ ≤ 601024; omega, by show _ ≤ 7293034; omega⟩ (fun H locs hP hD hS => ?_)
    refine W.widen (k := 400 + n + 1) (n := 20000 + 6 * n + 6) (by omega) (by omega) ?_
    refine lv_istore (lv' := [(5, .int 2), (4, .int (nI n)), (3, .ref qo), (2, .ref (qm 0)), (1, .ref (qc 0)), (0, .ref b)]) hx hb nd_Law_law_847 hl (by decide) rfl (fun ls hl => ?_)
    refine lv_aload_n hx hb nd_Law_law_849 rfl (lv_at hl 3 rfl) ?_
    refine lv_aload_n hx hb nd_Law_law_850 rfl (lv_at hl 5 rfl) ?_
    refine lv_iload hx hb nd_Law_law_851 (lv_at hl 1 rfl) ?_
    refine lv_iconst (v := 1) hx hb nd_Law_law_853 (by decide) ?_
    refine lv_iadd hx hb nd_Law_law_854 ?_
    refine k_sld (n := n) (j := 1) hx hb hX hbl hbA hS (k_sidx rfl) (by omega) hL nd_Law_law_855 ?_
    refine lv_aload_n hx hb nd_Law_law_856 rfl (lv_at hl 5 rfl) ?_
    refine lv_iload hx hb nd_Law_law_857 (lv_at hl 1 rfl) ?_
    refine lv_iconst (v := 2) hx hb nd_Law_law_859 (by decide) ?_
    refine lv_iadd hx hb nd_Law_law_860 ?_
    refine k_sld (n := n) (j := 2) hx hb hX hbl hbA hS (k_sidx rfl) (by omega) hL nd_Law_law_861 ?_
    refine lv_aload_n hx hb nd_Law_law_862 rfl (lv_at hl 5 rfl) ?_
    refine lv_iload hx hb nd_Law_law_863 (lv_at hl 1 rfl) ?_
    refine lv_iconst (v := 3) hx hb nd_Law_law_865 (by decide) ?_
    refine lv_iadd hx hb nd_Law_law_866 ?_
    refine k_sld (n := n) (j := 3) hx hb hX hbl hbA hS (k_sidx rfl) (by omega) hL nd_Law_law_867 ?_
    refine k_wVI (wr := k_pick (wA qc qm qo ca I J A L i a l9 o) [0, 1, 2, 3, 4, 5, 6, 7, 8, 9, 10, 11, 12, 13, 14, 15, 16, 17, 18, 19, 20, 21, 22, 23, 24, 25, 26, 27, 28, 29, 30, 31, 32, 33, 34, 35, 36, 37, 38, 39, 40, 41, 42, 43, 44, 45, 46, 47, 48, 49, 50, 51, 52, 53, 54, 55, 56, 57, 58, 59, 60, 61, 62, 64, 65, 66, 67, 68, 69, 70, 71, 72, 73, 74, 75, 79, 80, 81, 82, 83, 84, 85, 86, 87, 88]) (w2 := wA qc qm qo ca I J A L (va_up i 0 S1) (va_up (va_up (va_up a 9 S2) 10 S3) 8 S4) l9 o) (As := [.int (xs (n + 1)), .int (xs (n + 2)), .int (xs (n + 3))]) (rest := []) (r := S0) hx hb hml hown hts (cn_Model_risk l D ca (qm 0) (qm 1) (qm 2) (qm 3) (qm 4) (qm 5) (qm 6) (qm 7) (qm 8) (qm 9) (qm 10) (qm 11) (qm 12) (qm 13) (qm 14) (qm 15) (qm 16) (qm 17) (qm 18) (qm 19) (qm 20) (qm 21) (qm 22) (qm 23) (qm 24) (i 0) (i 1) (i 2) (i 3) (i 4) (i 5) (i 6) (i 7) (a 8) (a 9) (a 10) (xs (n + 1)) (xs (n + 2)) (xs (n + 3)) S0 S1 S2 S3 S4 e2 _) kc_Model_risk kv_Model_risk tt_952 ⟨by decide, by decide⟩ rfl rfl hP hK hD hS hA [63, 76, 77, 78] [0, 1, 2, 3, 4, 5, 6, 7, 8, 9, 10, 11, 12, 13, 14, 15, 16, 17, 18, 19, 20, 21, 22, 23, 24, 25, 26, 27, 28, 29, 30, 31, 32, 33, 34, 35, 36, 37, 38, 39, 40, 41, 42, 43, 44, 45, 46, 47, 48, 49, 50, 51, 52, 53, 54, 55, 56, 57, 58, 59, 60, 61, 62, 64, 65, 66, 67, 68, 69, 70, 71, 72, 73, 74, 75, 79, 80, 81, 82, 83, 84, 85, 86, 87, 88] [0, 1, 2, 3, 4, 5, 6, 7, 8, 9, 10, 11, 12, 13, 14, 15, 16, 17, 18, 19, 20, 21, 22, 23, 24, 25, 26, 27, 28, 29, 30, 31, 32, 33, 34, 35, 36, 37, 38, 39, 40, 41, 42, 43, 44, 45, 46, 47, 48, 49, 50, 51, 52, 53, 54, 55, 56, 57, 58, 59, 60, 61, 62, 85, 63, 64, 65, 66, 67, 68, 69, 70, 71, 72, 73, 74, 86, 87, 88, 75, 76, 77, 78, 79, 80, 81, 82, 83, 84] rfl (by decide) rfl (by decide) (by decide) rfl (by decide) 0 rfl rfl rfl rfl hl.1 (Nat.le_of_ble_eq_true rfl) rfl nd_Law_law_868 ⟨by show _ ≤ 601024; omega, by show _ ≤ 7293034; omega⟩ (fun H locs hP hD hS => ?_)
    refine lv_istore (lv' := [(6, .int S0), (5, .int 2), (4, .int (nI n)), (3, .ref qo), (2, .ref (qm 0)), (1, .ref (qc 0)), (0, .ref b)]) hx hb nd_Law_law_871 hl (by decide) rfl (fun ls hl => ?_)
    refine lv_aload_n hx hb nd_Law_law_873 rfl (lv_at hl 4 rfl) ?_
    refine k_rVI (As := []) (rest := []) (r := S1) hx hb hml hown hts (cn_Model_thrown l D ca (qm 0) (qm 1) (qm 2) (qm 3) (qm 4) (qm 5) (qm 6) (qm 7) (qm 8) (qm 9) (qm 10) (qm 11) (qm 12) (qm 13) (qm 14) (qm 15) (qm 16) (qm 17) (qm 18) (qm 19) (qm 20) (qm 21) (qm 22) (qm 23) (qm 24) ((va_up i 0 S1) 0) ((va_up i 0 S1) 1) ((va_up i 0 S1) 2) ((va_up i 0 S1) 3) ((va_up i 0 S1) 4) ((va_up i 0 S1) 5) ((va_up i 0 S1) 6) ((va_up i 0 S1) 7) S1 rfl) kc_Model_thrown kv_Model_thrown tt_820 ⟨by decide, by decide⟩ rfl rfl hP hK [63] rfl 0 rfl rfl rfl rfl hl.1 (Nat.le_of_ble_eq_true rfl) rfl nd_Law_law_874 ⟨by show _ ≤ 601024; omega, by show _ ≤ 7293034; omega⟩ ?_
    refine lv_iload hx hb nd_Law_law_877 (lv_at hl 1 rfl) ?_
    refine lv_icmp_eq (tgt := 884) hx hb nd_Law_law_879 (by decide) (fun c6 => ?_) (fun c6 => ?_)
    rotate_left
    · exact absurd et c6
    refine lv_iload hx hb nd_Law_law_884 (lv_at hl 1 rfl) ?_
    refine lv_if_ne (tgt := 901) hx hb nd_Law_law_886 (by decide) (fun c7 => ?_) (fun c7 => ?_)
    rotate_left
    · exact absurd c7 (by decide)
    refine lv_goto (tgt := 1452) hx hb nd_Law_law_901 (by decide) ?_
    refine W.widen (k := 400 + n + 1) (n := 20000 + 6 * n + 6) (by omega) (by omega) ?_
    exact hnext _ _ _ _ _ _ _ _ _ _ _ hRel hP hD hS (lv_sub hl [2, 3, 4, 5, 6] rfl)
  ·
    refine lv_aload_n hx hb nd_Law_law_824 rfl (lv_at hl 3 rfl) ?_
    refine lv_aload_n hx hb nd_Law_law_825 rfl (lv_at hl 4 rfl) ?_
    refine lv_iload hx hb nd_Law_law_826 (lv_at hl 0 rfl) ?_
    refine lv_iconst (v := 1) hx hb nd_Law_law_828 (by decide) ?_
    refine lv_iadd hx hb nd_Law_law_829 ?_
    refine k_sld (n := n) (j := 1) hx hb hX hbl hbA hS (k_sidx rfl) (by omega) hL nd_Law_law_830 ?_
    refine lv_aload_n hx hb nd_Law_law_831 rfl (lv_at hl 4 rfl) ?_
    refine lv_iload hx hb nd_Law_law_832 (lv_at hl 0 rfl) ?_
    refine lv_iconst (v := 2) hx hb nd_Law_law_834 (by decide) ?_
    refine lv_iadd hx hb nd_Law_law_835 ?_
    refine k_sld (n := n) (j := 2) hx hb hX hbl hbA hS (k_sidx rfl) (by omega) hL nd_Law_law_836 ?_
    refine lv_aload_n hx hb nd_Law_law_837 rfl (lv_at hl 4 rfl) ?_
    refine lv_iload hx hb nd_Law_law_838 (lv_at hl 0 rfl) ?_
    refine lv_iconst (v := 3) hx hb nd_Law_law_840 (by decide) ?_
    refine lv_iadd hx hb nd_Law_law_841 ?_
    refine k_sld (n := n) (j := 3) hx hb hX hbl hbA hS (k_sidx rfl) (by omega) hL nd_Law_law_842 ?_
    refine lv_aload_n hx hb nd_Law_law_843 rfl (lv_at hl 1 rfl) ?_
    refine k_wSWX (wr := k_pick (wA qc qm qo ca I J A L i a l9 o) [1, 2, 3, 4, 5, 6, 7, 8, 9, 10, 11, 12, 13, 14, 15, 16, 17, 18, 19, 20, 21, 22, 23, 24, 25, 26, 27, 28, 29, 30, 31, 32, 33, 47, 48, 49, 50, 51, 52, 53, 54, 55, 56, 57, 58, 59, 60, 61, 62, 63, 64, 65, 66, 67, 68, 69, 70, 71, 72, 73, 74, 75, 76, 77, 78, 79, 80, 81, 82, 83, 84, 85, 86, 87]) (w2 := wA qc qm qo ca I J A L i a l9 o) (As := [.ref (qc 0), .int (xs (n + 1)), .int (xs (n + 2)), .int (xs (n + 3)), .ref qo]) (rest := []) (r := 3) hx hb hml hown hts (hx_Law_risk_3 l hlt D ca (qc 0) (qc 1) (qc 19) (qc 34) (qc 47) (qc 48) (qc 58) (qc 35) (qc 38) (qc 41) (qc 44) (qc 36) (qc 37) (qc 39) (qc 40) (qc 42) (qc 43) (qc 45) (qc 46) qo (I 0) (I 10) (A 16) (A 17) (I 11) (A 18) (A 19) (I 12) (A 20) (A 21) (I 13) (A 22) (A 23) o (xs (n + 1)) (xs (n + 2)) (xs (n + 3)) e1 _) kc_Law_risk ks_Law_risk tt_571 ⟨by decide, by decide⟩ rfl rfl hP hK hD hS hA hev [0, 34, 35, 36, 37, 38, 39, 40, 41, 42, 43, 44, 45, 46, 88] [1, 2, 3, 4, 5, 6, 7, 8, 9, 10, 11, 12, 13, 14, 15, 16, 17, 18, 19, 20, 21, 22, 23, 24, 25, 26, 27, 28, 29, 30, 31, 32, 33, 47, 48, 49, 50, 51, 52, 53, 54, 55, 56, 57, 58, 59, 60, 61, 62, 63, 64, 65, 66, 67, 68, 69, 70, 71, 72, 73, 74, 75, 76, 77, 78, 79, 80, 81, 82, 83, 84, 85, 86, 87] [74, 0, 1, 2, 3, 4, 5, 6, 7, 8, 9, 10, 11, 12, 13, 14, 15, 16, 17, 18, 19, 20, 21, 22, 23, 24, 25, 26, 27, 28, 29, 30, 31, 32, 75, 76, 77, 78, 79, 80, 81, 82, 83, 84, 85, 86, 87, 33, 34, 35, 36, 37, 38, 39, 40, 41, 42, 43, 44, 45, 46, 47, 48, 49, 50, 51, 52, 53, 54, 55, 56, 57, 58, 59, 60, 61, 62, 63, 64, 65, 66, 67, 68, 69, 70, 71, 72, 73, 88] rfl (by decide) rfl (by decide) (by decide) rfl (by decide) rfl hl.1 (Nat.le_of_ble_eq_true rfl) rfl nd_Law_law_844 ⟨by show _ ≤ 601024; omega, by show _ ≤ 7293034; omega⟩ (fun H locs hP hD hS => ?_)
    refine W.widen (k := 400 + n + 1) (n := 20000 + 6 * n + 6) (by omega) (by omega) ?_
    refine lv_istore (lv' := [(5, .int 3), (4, .int (nI n)), (3, .ref qo), (2, .ref (qm 0)), (1, .ref (qc 0)), (0, .ref b)]) hx hb nd_Law_law_847 hl (by decide) rfl (fun ls hl => ?_)
    refine lv_aload_n hx hb nd_Law_law_849 rfl (lv_at hl 3 rfl) ?_
    refine lv_aload_n hx hb nd_Law_law_850 rfl (lv_at hl 5 rfl) ?_
    refine lv_iload hx hb nd_Law_law_851 (lv_at hl 1 rfl) ?_
    refine lv_iconst (v := 1) hx hb nd_Law_law_853 (by decide) ?_
    refine lv_iadd hx hb nd_Law_law_854 ?_
    refine k_sld (n := n) (j := 1) hx hb hX hbl hbA hS (k_sidx rfl) (by omega) hL nd_Law_law_855 ?_
    refine lv_aload_n hx hb nd_Law_law_856 rfl (lv_at hl 5 rfl) ?_
    refine lv_iload hx hb nd_Law_law_857 (lv_at hl 1 rfl) ?_
    refine lv_iconst (v := 2) hx hb nd_Law_law_859 (by decide) ?_
    refine lv_iadd hx hb nd_Law_law_860 ?_
    refine k_sld (n := n) (j := 2) hx hb hX hbl hbA hS (k_sidx rfl) (by omega) hL nd_Law_law_861 ?_
    refine lv_aload_n hx hb nd_Law_law_862 rfl (lv_at hl 5 rfl) ?_
    refine lv_iload hx hb nd_Law_law_863 (lv_at hl 1 rfl) ?_
    refine lv_iconst (v := 3) hx hb nd_Law_law_865 (by decide) ?_
    refine lv_iadd hx hb nd_Law_law_866 ?_
    refine k_sld (n := n) (j := 3) hx hb hX hbl hbA hS (k_sidx rfl) (by omega) hL nd_Law_law_867 ?_
    refine k_wVI (wr := k_pick (wA qc qm qo ca I J A L i a l9 o) [0, 1, 2, 3, 4, 5, 6, 7, 8, 9, 10, 11, 12, 13, 14, 15, 16, 17, 18, 19, 20, 21, 22, 23, 24, 25, 26, 27, 28, 29, 30, 31, 32, 33, 34, 35, 36, 37, 38, 39, 40, 41, 42, 43, 44, 45, 46, 47, 48, 49, 50, 51, 52, 53, 54, 55, 56, 57, 58, 59, 60, 61, 62, 64, 65, 66, 67, 68, 69, 70, 71, 72, 73, 74, 75, 79, 80, 81, 82, 83, 84, 85, 86, 87, 88]) (w2 := wA qc qm qo ca I J A L (va_up i 0 S1) (va_up (va_up (va_up a 9 S2) 10 S3) 8 S4) l9 o) (As := [.int (xs (n + 1)), .int (xs (n + 2)), .int (xs (n + 3))]) (rest := []) (r := S0) hx hb hml hown hts (cn_Model_risk l D ca (qm 0) (qm 1) (qm 2) (qm 3) (qm 4) (qm 5) (qm 6) (qm 7) (qm 8) (qm 9) (qm 10) (qm 11) (qm 12) (qm 13) (qm 14) (qm 15) (qm 16) (qm 17) (qm 18) (qm 19) (qm 20) (qm 21) (qm 22) (qm 23) (qm 24) (i 0) (i 1) (i 2) (i 3) (i 4) (i 5) (i 6) (i 7) (a 8) (a 9) (a 10) (xs (n + 1)) (xs (n + 2)) (xs (n + 3)) S0 S1 S2 S3 S4 e2 _) kc_Model_risk kv_Model_risk tt_952 ⟨by decide, by decide⟩ rfl rfl hP hK hD hS hA [63, 76, 77, 78] [0, 1, 2, 3, 4, 5, 6, 7, 8, 9, 10, 11, 12, 13, 14, 15, 16, 17, 18, 19, 20, 21, 22, 23, 24, 25, 26, 27, 28, 29, 30, 31, 32, 33, 34, 35, 36, 37, 38, 39, 40, 41, 42, 43, 44, 45, 46, 47, 48, 49, 50, 51, 52, 53, 54, 55, 56, 57, 58, 59, 60, 61, 62, 64, 65, 66, 67, 68, 69, 70, 71, 72, 73, 74, 75, 79, 80, 81, 82, 83, 84, 85, 86, 87, 88] [0, 1, 2, 3, 4, 5, 6, 7, 8, 9, 10, 11, 12, 13, 14, 15, 16, 17, 18, 19, 20, 21, 22, 23, 24, 25, 26, 27, 28, 29, 30, 31, 32, 33, 34, 35, 36, 37, 38, 39, 40, 41, 42, 43, 44, 45, 46, 47, 48, 49, 50, 51, 52, 53, 54, 55, 56, 57, 58, 59, 60, 61, 62, 85, 63, 64, 65, 66, 67, 68, 69, 70, 71, 72, 73, 74, 86, 87, 88, 75, 76, 77, 78, 79, 80, 81, 82, 83, 84] rfl (by decide) rfl (by decide) (by decide) rfl (by decide) 0 rfl rfl rfl rfl hl.1 (Nat.le_of_ble_eq_true rfl) rfl nd_Law_law_868 ⟨by show _ ≤ 601024; omega, by show _ ≤ 7293034; omega⟩ (fun H locs hP hD hS => ?_)
    refine lv_istore (lv' := [(6, .int S0), (5, .int 3), (4, .int (nI n)), (3, .ref qo), (2, .ref (qm 0)), (1, .ref (qc 0)), (0, .ref b)]) hx hb nd_Law_law_871 hl (by decide) rfl (fun ls hl => ?_)
    refine lv_aload_n hx hb nd_Law_law_873 rfl (lv_at hl 4 rfl) ?_
    refine k_rVI (As := []) (rest := []) (r := S1) hx hb hml hown hts (cn_Model_thrown l D ca (qm 0) (qm 1) (qm 2) (qm 3) (qm 4) (qm 5) (qm 6) (qm 7) (qm 8) (qm 9) (qm 10) (qm 11) (qm 12) (qm 13) (qm 14) (qm 15) (qm 16) (qm 17) (qm 18) (qm 19) (qm 20) (qm 21) (qm 22) (qm 23) (qm 24) ((va_up i 0 S1) 0) ((va_up i 0 S1) 1) ((va_up i 0 S1) 2) ((va_up i 0 S1) 3) ((va_up i 0 S1) 4) ((va_up i 0 S1) 5) ((va_up i 0 S1) 6) ((va_up i 0 S1) 7) S1 rfl) kc_Model_thrown kv_Model_thrown tt_820 ⟨by decide, by decide⟩ rfl rfl hP hK [63] rfl 0 rfl rfl rfl rfl hl.1 (Nat.le_of_ble_eq_true rfl) rfl nd_Law_law_874 ⟨by show _ ≤ 601024; omega, by show _ ≤ 7293034; omega⟩ ?_
    refine lv_iload hx hb nd_Law_law_877 (lv_at hl 1 rfl) ?_
    refine lv_icmp_eq (tgt := 884) hx hb nd_Law_law_879 (by decide) (fun c8 => ?_) (fun c8 => ?_)
    rotate_left
    · exact absurd et c8
    refine lv_iload hx hb nd_Law_law_884 (lv_at hl 1 rfl) ?_
    refine lv_if_ne (tgt := 901) hx hb nd_Law_law_886 (by decide) (fun c9 => ?_) (fun c9 => ?_)
    rotate_left
    · exact absurd c9 (by decide)
    refine lv_goto (tgt := 1452) hx hb nd_Law_law_901 (by decide) ?_
    refine W.widen (k := 400 + n + 1) (n := 20000 + 6 * n + 6) (by omega) (by omega) ?_
    exact hnext _ _ _ _ _ _ _ _ _ _ _ hRel hP hD hS (lv_sub hl [2, 3, 4, 5, 6] rfl)
set_option maxHeartbeats 8000000 in
set_option maxRecDepth 100000 in
theorem lc_points {p : Program} {l : Launch} {e : Env} {s : State} {m : MethodId} {below : List Frame} {meth : Method} {c : Code} {D : va_G} {ca : Nat → ClassId} {b Ls : Nat} {xs : Nat → Int32} (C0 : lw_At p s m meth c b Ls xs) (hL : Ls ≤ 2560) (hlt : l.stackTraces = false) (hev0 : xt_ev s s.heap) (hK : va_K D vwCl (tyG ca) s) {Rel : (Nat → Int32) → (Nat → Int64) → (Nat → Nat → Int32) → (Nat → Nat → Int64) → (Nat → Int32) → (Nat → Nat → Int32) → (Nat → Nat → Int64) → Prop} {qc qm : Nat → Nat} {qo : Nat} {I : Nat → Int32} {J : Nat → Int64} {A : Nat → Nat → Int32} {L : Nat → Nat → Int64} {i : Nat → Int32} {a : Nat → Nat → Int32} {l9 : Nat → Nat → Int64} {o : Nat → Int64} {n : Nat} (hn : n + 5 ≤ Ls) {H : Heap} {locs : List Loc} {ls : Array Slot} (hP : va_P D vwCl (wA qc qm qo ca I J A L i a l9 o) H) (hD : va_D (fun q : Nat => s.heap.size ≤ q) (wA qc qm qo ca I J A L i a l9 o)) (hS : va_S (fun q : Nat => s.heap.size ≤ q) s.heap H locs) (hl : lv_has ls 8 [(4, .int (nI n)), (3, .ref qo), (2, .ref (qm 0)), (1, .ref (qc 0)), (0, .ref b)]) (hst : st_points Rel I J A L i a l9 o (xs (n + 1))) (hnext : ∀ (I : Nat → Int32) (J : Nat → Int64) (A : Nat → Nat → Int32) (L : Nat → Nat → Int64) (i : Nat → Int32) (a : Nat → Nat → Int32) (l9 : Nat → Nat → Int64) (o : Nat → Int64) (H : Heap) (locs : List Loc) (ls : Array Slot), Rel I J A L i a l9 → va_P D vwCl (wA qc qm qo ca I J A L i a l9 o) H → va_D (fun q : Nat => s.heap.size ≤ q) (wA qc qm qo ca I J A L i a l9 o) → va_S (fun q : Nat => s.heap.size ≤ q) s.heap H locs → lv_has ls 8 [(4, .int (nI n)), (3, .ref qo), (2, .ref (qm 0)), (1, .ref (qc 0)), (0, .ref b)] → W p l e room_1 s m #[Value.ref b] below meth c H locs (400 + n + 1) (20000 + 6 * n + 6) (lw_Z below #[Value.ref b] s) (F0 m 1452 ls [])) : W p l e room_1 s m #[Value.ref b] below meth c H locs (400 + n) (20000 + 6 * n) (lw_Z below #[Value.ref b] s) (F0 m 904 ls []) := by
  obtain ⟨hx, hb, hr, hml, hown, hts0, hX, hbl, hlocks, hgv⟩ := C0
  have hts : ∀ w ∈ TT, w.before #[Value.ref b] s = true := fun w h => hts0 w (List.mem_filter.mp h).1
  have hA : ∀ q : Nat, s.heap.size ≤ q → (fun q : Nat => s.heap.size ≤ q) q := fun _ h => h
  have hbA : ¬ (fun q : Nat => s.heap.size ≤ q) b := Nat.not_le.mpr hbl
  have hown : s.vm.findClass nR_Law = some m.cls := hown
  have hev : xt_ev s H := k_evH hev0 hS
  unfold st_points at hst
  rcases hst with ⟨R1, S0, S1, e1, e2, et, ea, hRel⟩ | ⟨S0, S1, e1, e2, et, hRel⟩
  ·
    refine lv_aload_n hx hb nd_Law_law_904 rfl (lv_at hl 3 rfl) ?_
    refine lv_aload_n hx hb nd_Law_law_905 rfl (lv_at hl 4 rfl) ?_
    refine lv_iload hx hb nd_Law_law_906 (lv_at hl 0 rfl) ?_
    refine lv_iconst (v := 1) hx hb nd_Law_law_908 (by decide) ?_
    refine lv_iadd hx hb nd_Law_law_909 ?_
    refine k_sld (n := n) (j := 1) hx hb hX hbl hbA hS (k_sidx rfl) (by omega) hL nd_Law_law_910 ?_
    refine lv_aload_n hx hb nd_Law_law_911 rfl (lv_at hl 1 rfl) ?_
    refine k_wSWI (wr := k_pick (wA qc qm qo ca I J A L i a l9 o) [1, 2, 3, 4, 5, 6, 7, 8, 9, 10, 11, 12, 13, 14, 15, 16, 17, 18, 19, 20, 21, 22, 23, 24, 25, 26, 27, 28, 29, 30, 31, 32, 33, 34, 35, 36, 37, 38, 39, 40, 41, 42, 43, 44, 45, 46, 48, 49, 50, 51, 52, 53, 54, 55, 56, 57, 58, 59, 60, 61, 62, 63, 64, 65, 66, 67, 68, 69, 70, 71, 72, 73, 74, 75, 76, 77, 78, 79, 80, 81, 82, 83, 84, 85, 86, 87]) (w2 := wA qc qm qo ca I J A L i a l9 R1) (As := [.ref (qc 0), .int (xs (n + 1)), .ref qo]) (rest := []) (r := 0) hx hb hml hown hts (cn_Law_points l D ca (qc 0) (qc 1) (qc 19) (qc 34) (qc 47) (qc 48) (qc 58) qo (I 0) (A 24) o (xs (n + 1)) (0 : Int32) R1 e1 _) kc_Law_points ks_Law_points tt_578 ⟨by decide, by decide⟩ rfl rfl hP hK hD hS hA [0, 47, 88] [1, 2, 3, 4, 5, 6, 7, 8, 9, 10, 11, 12, 13, 14, 15, 16, 17, 18, 19, 20, 21, 22, 23, 24, 25, 26, 27, 28, 29, 30, 31, 32, 33, 34, 35, 36, 37, 38, 39, 40, 41, 42, 43, 44, 45, 46, 48, 49, 50, 51, 52, 53, 54, 55, 56, 57, 58, 59, 60, 61, 62, 63, 64, 65, 66, 67, 68, 69, 70, 71, 72, 73, 74, 75, 76, 77, 78, 79, 80, 81, 82, 83, 84, 85, 86, 87] [86, 0, 1, 2, 3, 4, 5, 6, 7, 8, 9, 10, 11, 12, 13, 14, 15, 16, 17, 18, 19, 20, 21, 22, 23, 24, 25, 26, 27, 28, 29, 30, 31, 32, 33, 34, 35, 36, 37, 38, 39, 40, 41, 42, 43, 44, 45, 87, 46, 47, 48, 49, 50, 51, 52, 53, 54, 55, 56, 57, 58, 59, 60, 61, 62, 63, 64, 65, 66, 67, 68, 69, 70, 71, 72, 73, 74, 75, 76, 77, 78, 79, 80, 81, 82, 83, 84, 85, 88] rfl (by decide) rfl (by decide) (by decide) rfl (by decide) rfl hl.1 (Nat.le_of_ble_eq_true rfl) rfl nd_Law_law_912 ⟨by show _ ≤ 601024; omega, by show _ ≤ 7293034; omega⟩ (fun H locs hP hD hS => ?_)
    refine W.widen (k := 400 + n) (n := 20000 + 6 * n) (by omega) (by omega) ?_
    refine lv_istore (lv' := [(5, .int 0), (4, .int (nI n)), (3, .ref qo), (2, .ref (qm 0)), (1, .ref (qc 0)), (0, .ref b)]) hx hb nd_Law_law_915 hl (by decide) rfl (fun ls hl => ?_)
    refine lv_aload_n hx hb nd_Law_law_917 rfl (lv_at hl 3 rfl) ?_
    refine lv_aload_n hx hb nd_Law_law_918 rfl (lv_at hl 5 rfl) ?_
    refine lv_iload hx hb nd_Law_law_919 (lv_at hl 1 rfl) ?_
    refine lv_iconst (v := 1) hx hb nd_Law_law_921 (by decide) ?_
    refine lv_iadd hx hb nd_Law_law_922 ?_
    refine k_sld (n := n) (j := 1) hx hb hX hbl hbA hS (k_sidx rfl) (by omega) hL nd_Law_law_923 ?_
    refine k_wVI (wr := k_pick (wA qc qm qo ca I J A L i a l9 R1) [0, 1, 2, 3, 4, 5, 6, 7, 8, 9, 10, 11, 12, 13, 14, 15, 16, 17, 18, 19, 20, 21, 22, 23, 24, 25, 26, 27, 28, 29, 30, 31, 32, 33, 34, 35, 36, 37, 38, 39, 40, 41, 42, 43, 44, 45, 46, 47, 48, 49, 50, 51, 52, 53, 54, 55, 56, 57, 58, 59, 60, 61, 62, 64, 65, 66, 67, 68, 69, 70, 71, 72, 73, 74, 75, 76, 77, 78, 80, 81, 82, 83, 84, 85, 86, 87, 88]) (w2 := wA qc qm qo ca I J A L (va_up i 0 S1) a l9 R1) (As := [.int (xs (n + 1))]) (rest := []) (r := S0) hx hb hml hown hts (cn_Model_points l D ca (qm 0) (qm 1) (qm 2) (qm 3) (qm 4) (qm 5) (qm 6) (qm 7) (qm 8) (qm 9) (qm 10) (qm 11) (qm 12) (qm 13) (qm 14) (qm 15) (qm 16) (qm 17) (qm 18) (qm 19) (qm 20) (qm 21) (qm 22) (qm 23) (qm 24) (i 0) (i 1) (i 2) (i 3) (i 4) (i 5) (i 6) (i 7) (a 11) (xs (n + 1)) S0 S1 e2 _) kc_Model_points kv_Model_points tt_956 ⟨by decide, by decide⟩ rfl rfl hP hK hD hS hA [63, 79] [0, 1, 2, 3, 4, 5, 6, 7, 8, 9, 10, 11, 12, 13, 14, 15, 16, 17, 18, 19, 20, 21, 22, 23, 24, 25, 26, 27, 28, 29, 30, 31, 32, 33, 34, 35, 36, 37, 38, 39, 40, 41, 42, 43, 44, 45, 46, 47, 48, 49, 50, 51, 52, 53, 54, 55, 56, 57, 58, 59, 60, 61, 62, 64, 65, 66, 67, 68, 69, 70, 71, 72, 73, 74, 75, 76, 77, 78, 80, 81, 82, 83, 84, 85, 86, 87, 88] [0, 1, 2, 3, 4, 5, 6, 7, 8, 9, 10, 11, 12, 13, 14, 15, 16, 17, 18, 19, 20, 21, 22, 23, 24, 25, 26, 27, 28, 29, 30, 31, 32, 33, 34, 35, 36, 37, 38, 39, 40, 41, 42, 43, 44, 45, 46, 47, 48, 49, 50, 51, 52, 53, 54, 55, 56, 57, 58, 59, 60, 61, 62, 87, 63, 64, 65, 66, 67, 68, 69, 70, 71, 72, 73, 74, 75, 76, 77, 88, 78, 79, 80, 81, 82, 83, 84, 85, 86] rfl (by decide) rfl (by decide) (by decide) rfl (by decide) 0 rfl rfl rfl rfl hl.1 (Nat.le_of_ble_eq_true rfl) rfl nd_Law_law_924 ⟨by show _ ≤ 601024; omega, by show _ ≤ 7293034; omega⟩ (fun H locs hP hD hS => ?_)
    refine lv_istore (lv' := [(6, .int S0), (5, .int 0), (4, .int (nI n)), (3, .ref qo), (2, .ref (qm 0)), (1, .ref (qc 0)), (0, .ref b)]) hx hb nd_Law_law_927 hl (by decide) rfl (fun ls hl => ?_)
    refine lv_aload_n hx hb nd_Law_law_929 rfl (lv_at hl 4 rfl) ?_
    refine k_rVI (As := []) (rest := []) (r := S1) hx hb hml hown hts (cn_Model_thrown l D ca (qm 0) (qm 1) (qm 2) (qm 3) (qm 4) (qm 5) (qm 6) (qm 7) (qm 8) (qm 9) (qm 10) (qm 11) (qm 12) (qm 13) (qm 14) (qm 15) (qm 16) (qm 17) (qm 18) (qm 19) (qm 20) (qm 21) (qm 22) (qm 23) (qm 24) ((va_up i 0 S1) 0) ((va_up i 0 S1) 1) ((va_up i 0 S1) 2) ((va_up i 0 S1) 3) ((va_up i 0 S1) 4) ((va_up i 0 S1) 5) ((va_up i 0 S1) 6) ((va_up i 0 S1) 7) S1 rfl) kc_Model_thrown kv_Model_thrown tt_820 ⟨by decide, by decide⟩ rfl rfl hP hK [63] rfl 0 rfl rfl rfl rfl hl.1 (Nat.le_of_ble_eq_true rfl) rfl nd_Law_law_930 ⟨by show _ ≤ 601024; omega, by show _ ≤ 7293034; omega⟩ ?_
    refine lv_iload hx hb nd_Law_law_933 (lv_at hl 1 rfl) ?_
    refine lv_icmp_eq (tgt := 940) hx hb nd_Law_law_935 (by decide) (fun c1 => ?_) (fun c1 => ?_)
    rotate_left
    · exact absurd et c1
    refine lv_iload hx hb nd_Law_law_940 (lv_at hl 1 rfl) ?_
    refine lv_if_ne (tgt := 957) hx hb nd_Law_law_942 (by decide) (fun c2 => ?_) (fun c2 => ?_)
    · exact absurd rfl c2
    refine lv_aload_n hx hb nd_Law_law_945 rfl (lv_at hl 3 rfl) ?_
    refine lv_iconst (v := 0) hx hb nd_Law_law_946 (by decide) ?_
    refine va_lald hx hb hK hP 88 1 rfl rfl (by unfold vp_in; decide) nd_Law_law_947 ?_
    refine lv_iload hx hb nd_Law_law_948 (lv_at hl 0 rfl) ?_
    refine lv_i2l hx hb nd_Law_law_950 rfl ?_
    refine W.lcmp hx hb nd_Law_law_951 ?_
    refine lv_if_eq (tgt := 957) hx hb nd_Law_law_952 (by decide) (fun c3 => ?_) (fun c3 => ?_)
    rotate_left
    · exact absurd ea c3
    refine lv_goto (tgt := 1452) hx hb nd_Law_law_957 (by decide) ?_
    refine W.widen (k := 400 + n + 1) (n := 20000 + 6 * n + 6) (by omega) (by omega) ?_
    exact hnext _ _ _ _ _ _ _ _ _ _ _ hRel hP hD hS (lv_sub hl [2, 3, 4, 5, 6] rfl)
  ·
    refine lv_aload_n hx hb nd_Law_law_904 rfl (lv_at hl 3 rfl) ?_
    refine lv_aload_n hx hb nd_Law_law_905 rfl (lv_at hl 4 rfl) ?_
    refine lv_iload hx hb nd_Law_law_906 (lv_at hl 0 rfl) ?_
    refine lv_iconst (v := 1) hx hb nd_Law_law_908 (by decide) ?_
    refine lv_iadd hx hb nd_Law_law_909 ?_
    refine k_sld (n := n) (j := 1) hx hb hX hbl hbA hS (k_sidx rfl) (by omega) hL nd_Law_law_910 ?_
    refine lv_aload_n hx hb nd_Law_law_911 rfl (lv_at hl 1 rfl) ?_
    refine k_wSWX (wr := k_pick (wA qc qm qo ca I J A L i a l9 o) [1, 2, 3, 4, 5, 6, 7, 8, 9, 10, 11, 12, 13, 14, 15, 16, 17, 18, 19, 20, 21, 22, 23, 24, 25, 26, 27, 28, 29, 30, 31, 32, 33, 34, 35, 36, 37, 38, 39, 40, 41, 42, 43, 44, 45, 46, 48, 49, 50, 51, 52, 53, 54, 55, 56, 57, 58, 59, 60, 61, 62, 63, 64, 65, 66, 67, 68, 69, 70, 71, 72, 73, 74, 75, 76, 77, 78, 79, 80, 81, 82, 83, 84, 85, 86, 87]) (w2 := wA qc qm qo ca I J A L i a l9 o) (As := [.ref (qc 0), .int (xs (n + 1)), .ref qo]) (rest := []) (r := 1) hx hb hml hown hts (hx_Law_points_1 l hlt D ca (qc 0) (qc 1) (qc 19) (qc 34) (qc 47) (qc 48) (qc 58) qo (I 0) (A 24) o (xs (n + 1)) e1 _) kc_Law_points ks_Law_points tt_578 ⟨by decide, by decide⟩ rfl rfl hP hK hD hS hA hev [0, 47, 88] [1, 2, 3, 4, 5, 6, 7, 8, 9, 10, 11, 12, 13, 14, 15, 16, 17, 18, 19, 20, 21, 22, 23, 24, 25, 26, 27, 28, 29, 30, 31, 32, 33, 34, 35, 36, 37, 38, 39, 40, 41, 42, 43, 44, 45, 46, 48, 49, 50, 51, 52, 53, 54, 55, 56, 57, 58, 59, 60, 61, 62, 63, 64, 65, 66, 67, 68, 69, 70, 71, 72, 73, 74, 75, 76, 77, 78, 79, 80, 81, 82, 83, 84, 85, 86, 87] [86, 0, 1, 2, 3, 4, 5, 6, 7, 8, 9, 10, 11, 12, 13, 14, 15, 16, 17, 18, 19, 20, 21, 22, 23, 24, 25, 26, 27, 28, 29, 30, 31, 32, 33, 34, 35, 36, 37, 38, 39, 40, 41, 42, 43, 44, 45, 87, 46, 47, 48, 49, 50, 51, 52, 53, 54, 55, 56, 57, 58, 59, 60, 61, 62, 63, 64, 65, 66, 67, 68, 69, 70, 71, 72, 73, 74, 75, 76, 77, 78, 79, 80, 81, 82, 83, 84, 85, 88] rfl (by decide) rfl (by decide) (by decide) rfl (by decide) rfl hl.1 (Nat.le_of_ble_eq_true rfl) rfl nd_Law_law_912 ⟨by show _ ≤ 601024; omega, by show _ ≤ 7293034; omega⟩ (fun H locs hP hD hS => ?_)
    refine W.widen (k := 400 + n + 1) (n := 20000 + 6 * n + 6) (by omega) (by omega) ?_
    refine lv_istore (lv' := [(5, .int 1), (4, .int (nI n)), (3, .ref qo), (2, .ref (qm 0)), (1, .ref (qc 0)), (0, .ref b)]) hx hb nd_Law_law_915 hl (by decide) rfl (fun ls hl => ?_)
    refine lv_aload_n hx hb nd_Law_law_917 rfl (lv_at hl 3 rfl) ?_
    refine lv_aload_n hx hb nd_Law_law_918 rfl (lv_at hl 5 rfl) ?_
    refine lv_iload hx hb nd_Law_law_919 (lv_at hl 1 rfl) ?_
    refine lv_iconst (v := 1) hx hb nd_Law_law_921 (by decide) ?_
    refine lv_iadd hx hb nd_Law_law_922 ?_
    refine k_sld (n := n) (j := 1) hx hb hX hbl hbA hS (k_sidx rfl) (by omega) hL nd_Law_law_923 ?_
    refine k_wVI (wr := k_pick (wA qc qm qo ca I J A L i a l9 o) [0, 1, 2, 3, 4, 5, 6, 7, 8, 9, 10, 11, 12, 13, 14, 15, 16, 17, 18, 19, 20, 21, 22, 23, 24, 25, 26, 27, 28, 29, 30, 31, 32, 33, 34, 35, 36, 37, 38, 39, 40, 41, 42, 43, 44, 45, 46, 47, 48, 49, 50, 51, 52, 53, 54, 55, 56, 57, 58, 59, 60, 61, 62, 64, 65, 66, 67, 68, 69, 70, 71, 72, 73, 74, 75, 76, 77, 78, 80, 81, 82, 83, 84, 85, 86, 87, 88]) (w2 := wA qc qm qo ca I J A L (va_up i 0 S1) a l9 o) (As := [.int (xs (n + 1))]) (rest := []) (r := S0) hx hb hml hown hts (cn_Model_points l D ca (qm 0) (qm 1) (qm 2) (qm 3) (qm 4) (qm 5) (qm 6) (qm 7) (qm 8) (qm 9) (qm 10) (qm 11) (qm 12) (qm 13) (qm 14) (qm 15) (qm 16) (qm 17) (qm 18) (qm 19) (qm 20) (qm 21) (qm 22) (qm 23) (qm 24) (i 0) (i 1) (i 2) (i 3) (i 4) (i 5) (i 6) (i 7) (a 11) (xs (n + 1)) S0 S1 e2 _) kc_Model_points kv_Model_points tt_956 ⟨by decide, by decide⟩ rfl rfl hP hK hD hS hA [63, 79] [0, 1, 2, 3, 4, 5, 6, 7, 8, 9, 10, 11, 12, 13, 14, 15, 16, 17, 18, 19, 20, 21, 22, 23, 24, 25, 26, 27, 28, 29, 30, 31, 32, 33, 34, 35, 36, 37, 38, 39, 40, 41, 42, 43, 44, 45, 46, 47, 48, 49, 50, 51, 52, 53, 54, 55, 56, 57, 58, 59, 60, 61, 62, 64, 65, 66, 67, 68, 69, 70, 71, 72, 73, 74, 75, 76, 77, 78, 80, 81, 82, 83, 84, 85, 86, 87, 88] [0, 1, 2, 3, 4, 5, 6, 7, 8, 9, 10, 11, 12, 13, 14, 15, 16, 17, 18, 19, 20, 21, 22, 23, 24, 25, 26, 27, 28, 29, 30, 31, 32, 33, 34, 35, 36, 37, 38, 39, 40, 41, 42, 43, 44, 45, 46, 47, 48, 49, 50, 51, 52, 53, 54, 55, 56, 57, 58, 59, 60, 61, 62, 87, 63, 64, 65, 66, 67, 68, 69, 70, 71, 72, 73, 74, 75, 76, 77, 88, 78, 79, 80, 81, 82, 83, 84, 85, 86] rfl (by decide) rfl (by decide) (by decide) rfl (by decide) 0 rfl rfl rfl rfl hl.1 (Nat.le_of_ble_eq_true rfl) rfl nd_Law_law_924 ⟨by show _ ≤ 601024; omega, by show _ ≤ 7293034; omega⟩ (fun H locs hP hD hS => ?_)
    refine lv_istore (lv' := [(6, .int S0), (5, .int 1), (4, .int (nI n)), (3, .ref qo), (2, .ref (qm 0)), (1, .ref (qc 0)), (0, .ref b)]) hx hb nd_Law_law_927 hl (by decide) rfl (fun ls hl => ?_)
    refine lv_aload_n hx hb nd_Law_law_929 rfl (lv_at hl 4 rfl) ?_
    refine k_rVI (As := []) (rest := []) (r := S1) hx hb hml hown hts (cn_Model_thrown l D ca (qm 0) (qm 1) (qm 2) (qm 3) (qm 4) (qm 5) (qm 6) (qm 7) (qm 8) (qm 9) (qm 10) (qm 11) (qm 12) (qm 13) (qm 14) (qm 15) (qm 16) (qm 17) (qm 18) (qm 19) (qm 20) (qm 21) (qm 22) (qm 23) (qm 24) ((va_up i 0 S1) 0) ((va_up i 0 S1) 1) ((va_up i 0 S1) 2) ((va_up i 0 S1) 3) ((va_up i 0 S1) 4) ((va_up i 0 S1) 5) ((va_up i 0 S1) 6) ((va_up i 0 S1) 7) S1 rfl) kc_Model_thrown kv_Model_thrown tt_820 ⟨by decide, by decide⟩ rfl rfl hP hK [63] rfl 0 rfl rfl rfl rfl hl.1 (Nat.le_of_ble_eq_true rfl) rfl nd_Law_law_930 ⟨by show _ ≤ 601024; omega, by show _ ≤ 7293034; omega⟩ ?_
    refine lv_iload hx hb nd_Law_law_933 (lv_at hl 1 rfl) ?_
    refine lv_icmp_eq (tgt := 940) hx hb nd_Law_law_935 (by decide) (fun c4 => ?_) (fun c4 => ?_)
    rotate_left
    · exact absurd et c4
    refine lv_iload hx hb nd_Law_law_940 (lv_at hl 1 rfl) ?_
    refine lv_if_ne (tgt := 957) hx hb nd_Law_law_942 (by decide) (fun c5 => ?_) (fun c5 => ?_)
    rotate_left
    · exact absurd c5 (by decide)
    refine lv_goto (tgt := 1452) hx hb nd_Law_law_957 (by decide) ?_
    refine W.widen (k := 400 + n + 1) (n := 20000 + 6 * n + 6) (by omega) (by omega) ?_
    exact hnext _ _ _ _ _ _ _ _ _ _ _ hRel hP hD hS (lv_sub hl [2, 3, 4, 5, 6] rfl)
set_option maxHeartbeats 8000000 in
set_option maxRecDepth 100000 in
theorem lc_rule {p : Program} {l : Launch} {e : Env} {s : State} {m : MethodId} {below : List Frame} {meth : Method} {c : Code} {D : va_G} {ca : Nat → ClassId} {b Ls : Nat} {xs : Nat → Int32} (C0 : lw_At p s m meth c b Ls xs) (hL : Ls ≤ 2560) (hlt : l.stackTraces = false) (hev0 : xt_ev s s.heap) (hK : va_K D vwCl (tyG ca) s) {Rel : (Nat → Int32) → (Nat → Int64) → (Nat → Nat → Int32) → (Nat → Nat → Int64) → (Nat → Int32) → (Nat → Nat → Int32) → (Nat → Nat → Int64) → Prop} {qc qm : Nat → Nat} {qo : Nat} {I : Nat → Int32} {J : Nat → Int64} {A : Nat → Nat → Int32} {L : Nat → Nat → Int64} {i : Nat → Int32} {a : Nat → Nat → Int32} {l9 : Nat → Nat → Int64} {o : Nat → Int64} {n : Nat} (hn : n + 5 ≤ Ls) {H : Heap} {locs : List Loc} {ls : Array Slot} (hP : va_P D vwCl (wA qc qm qo ca I J A L i a l9 o) H) (hD : va_D (fun q : Nat => s.heap.size ≤ q) (wA qc qm qo ca I J A L i a l9 o)) (hS : va_S (fun q : Nat => s.heap.size ≤ q) s.heap H locs) (hl : lv_has ls 8 [(4, .int (nI n)), (3, .ref qo), (2, .ref (qm 0)), (1, .ref (qc 0)), (0, .ref b)]) (hst : st_rule Rel I J A L i a l9 o (xs (n + 1)) (xs (n + 2)) (xs (n + 3))) (hnext : ∀ (I : Nat → Int32) (J : Nat → Int64) (A : Nat → Nat → Int32) (L : Nat → Nat → Int64) (i : Nat → Int32) (a : Nat → Nat → Int32) (l9 : Nat → Nat → Int64) (o : Nat → Int64) (H : Heap) (locs : List Loc) (ls : Array Slot), Rel I J A L i a l9 → va_P D vwCl (wA qc qm qo ca I J A L i a l9 o) H → va_D (fun q : Nat => s.heap.size ≤ q) (wA qc qm qo ca I J A L i a l9 o) → va_S (fun q : Nat => s.heap.size ≤ q) s.heap H locs → lv_has ls 8 [(4, .int (nI n)), (3, .ref qo), (2, .ref (qm 0)), (1, .ref (qc 0)), (0, .ref b)] → W p l e room_1 s m #[Value.ref b] below meth c H locs (400 + n + 1) (20000 + 6 * n + 6) (lw_Z below #[Value.ref b] s) (F0 m 1452 ls [])) : W p l e room_1 s m #[Value.ref b] below meth c H locs (400 + n) (20000 + 6 * n) (lw_Z below #[Value.ref b] s) (F0 m 960 ls []) := by
  obtain ⟨hx, hb, hr, hml, hown, hts0, hX, hbl, hlocks, hgv⟩ := C0
  have hts : ∀ w ∈ TT, w.before #[Value.ref b] s = true := fun w h => hts0 w (List.mem_filter.mp h).1
  have hA : ∀ q : Nat, s.heap.size ≤ q → (fun q : Nat => s.heap.size ≤ q) q := fun _ h => h
  have hbA : ¬ (fun q : Nat => s.heap.size ≤ q) b := Nat.not_le.mpr hbl
  have hown : s.vm.findClass nR_Law = some m.cls := hown
  have hev : xt_ev s H := k_evH hev0 hS
  unfold st_rule at hst
  rcases hst with ⟨R1, R2, R3, R4, R5, S0, S1, S2, S3, S4, S5, e1, e2, et, ea, hRel⟩ | ⟨S0, S1, S2, S3, S4, S5, e1, e2, et, hRel⟩ | ⟨S0, S1, S2, S3, S4, S5, e1, e2, et, hRel⟩
  ·
    refine lv_aload_n hx hb nd_Law_law_960 rfl (lv_at hl 3 rfl) ?_
    refine lv_aload_n hx hb nd_Law_law_961 rfl (lv_at hl 4 rfl) ?_
    refine lv_iload hx hb nd_Law_law_962 (lv_at hl 0 rfl) ?_
    refine lv_iconst (v := 1) hx hb nd_Law_law_964 (by decide) ?_
    refine lv_iadd hx hb nd_Law_law_965 ?_
    refine k_sld (n := n) (j := 1) hx hb hX hbl hbA hS (k_sidx rfl) (by omega) hL nd_Law_law_966 ?_
    refine lv_aload_n hx hb nd_Law_law_967 rfl (lv_at hl 4 rfl) ?_
    refine lv_iload hx hb nd_Law_law_968 (lv_at hl 0 rfl) ?_
    refine lv_iconst (v := 2) hx hb nd_Law_law_970 (by decide) ?_
    refine lv_iadd hx hb nd_Law_law_971 ?_
    refine k_sld (n := n) (j := 2) hx hb hX hbl hbA hS (k_sidx rfl) (by omega) hL nd_Law_law_972 ?_
    refine lv_aload_n hx hb nd_Law_law_973 rfl (lv_at hl 4 rfl) ?_
    refine lv_iload hx hb nd_Law_law_974 (lv_at hl 0 rfl) ?_
    refine lv_iconst (v := 3) hx hb nd_Law_law_976 (by decide) ?_
    refine lv_iadd hx hb nd_Law_law_977 ?_
    refine k_sld (n := n) (j := 3) hx hb hX hbl hbA hS (k_sidx rfl) (by omega) hL nd_Law_law_978 ?_
    refine lv_aload_n hx hb nd_Law_law_979 rfl (lv_at hl 1 rfl) ?_
    refine k_wSWI (wr := k_pick (wA qc qm qo ca I J A L i a l9 o) [1, 2, 3, 4, 5, 6, 7, 8, 9, 10, 11, 12, 13, 14, 15, 16, 17, 18, 19, 20, 21, 22, 23, 24, 25, 26, 27, 28, 29, 30, 31, 32, 33, 34, 35, 36, 37, 38, 39, 40, 41, 42, 43, 44, 45, 46, 47, 52, 53, 54, 55, 56, 57, 58, 59, 60, 61, 62, 63, 64, 65, 66, 67, 68, 69, 70, 71, 72, 73, 74, 75, 76, 77, 78, 79, 80, 81, 82, 83, 84, 85, 86, 87]) (w2 := wA qc qm qo ca (va_up I 14 R4) J (va_up (va_up (va_up A 25 R1) 26 R2) 27 R3) L i a l9 R5) (As := [.ref (qc 0), .int (xs (n + 1)), .int (xs (n + 2)), .int (xs (n + 3)), .ref qo]) (rest := []) (r := 0) hx hb hml hown hts (cn_Law_rule l D ca (qc 0) (qc 1) (qc 19) (qc 34) (qc 47) (qc 48) (qc 58) (qc 49) (qc 50) (qc 51) (qc 52) (qc 53) qo (I 0) (I 14) (A 25) (A 26) (A 27) o (xs (n + 1)) (xs (n + 2)) (xs (n + 3)) (0 : Int32) R1 R2 R3 R4 R5 e1 _) kc_Law_rule ks_Law_rule tt_585 ⟨by decide, by decide⟩ rfl rfl hP hK hD hS hA [0, 48, 49, 50, 51, 88] [1, 2, 3, 4, 5, 6, 7, 8, 9, 10, 11, 12, 13, 14, 15, 16, 17, 18, 19, 20, 21, 22, 23, 24, 25, 26, 27, 28, 29, 30, 31, 32, 33, 34, 35, 36, 37, 38, 39, 40, 41, 42, 43, 44, 45, 46, 47, 52, 53, 54, 55, 56, 57, 58, 59, 60, 61, 62, 63, 64, 65, 66, 67, 68, 69, 70, 71, 72, 73, 74, 75, 76, 77, 78, 79, 80, 81, 82, 83, 84, 85, 86, 87] [83, 0, 1, 2, 3, 4, 5, 6, 7, 8, 9, 10, 11, 12, 13, 14, 15, 16, 17, 18, 19, 20, 21, 22, 23, 24, 25, 26, 27, 28, 29, 30, 31, 32, 33, 34, 35, 36, 37, 38, 39, 40, 41, 42, 43, 44, 45, 46, 84, 85, 86, 87, 47, 48, 49, 50, 51, 52, 53, 54, 55, 56, 57, 58, 59, 60, 61, 62, 63, 64, 65, 66, 67, 68, 69, 70, 71, 72, 73, 74, 75, 76, 77, 78, 79, 80, 81, 82, 88] rfl (by decide) rfl (by decide) (by decide) rfl (by decide) rfl hl.1 (Nat.le_of_ble_eq_true rfl) rfl nd_Law_law_980 ⟨by show _ ≤ 601024; omega, by show _ ≤ 7293034; omega⟩ (fun H locs hP hD hS => ?_)
    refine W.widen (k := 400 + n) (n := 20000 + 6 * n) (by omega) (by omega) ?_
    refine lv_istore (lv' := [(5, .int 0), (4, .int (nI n)), (3, .ref qo), (2, .ref (qm 0)), (1, .ref (qc 0)), (0, .ref b)]) hx hb nd_Law_law_983 hl (by decide) rfl (fun ls hl => ?_)
    refine lv_aload_n hx hb nd_Law_law_985 rfl (lv_at hl 3 rfl) ?_
    refine lv_aload_n hx hb nd_Law_law_986 rfl (lv_at hl 5 rfl) ?_
    refine lv_iload hx hb nd_Law_law_987 (lv_at hl 1 rfl) ?_
    refine lv_iconst (v := 1) hx hb nd_Law_law_989 (by decide) ?_
    refine lv_iadd hx hb nd_Law_law_990 ?_
    refine k_sld (n := n) (j := 1) hx hb hX hbl hbA hS (k_sidx rfl) (by omega) hL nd_Law_law_991 ?_
    refine lv_aload_n hx hb nd_Law_law_992 rfl (lv_at hl 5 rfl) ?_
    refine lv_iload hx hb nd_Law_law_993 (lv_at hl 1 rfl) ?_
    refine lv_iconst (v := 2) hx hb nd_Law_law_995 (by decide) ?_
    refine lv_iadd hx hb nd_Law_law_996 ?_
    refine k_sld (n := n) (j := 2) hx hb hX hbl hbA hS (k_sidx rfl) (by omega) hL nd_Law_law_997 ?_
    refine lv_aload_n hx hb nd_Law_law_998 rfl (lv_at hl 5 rfl) ?_
    refine lv_iload hx hb nd_Law_law_999 (lv_at hl 1 rfl) ?_
    refine lv_iconst (v := 3) hx hb nd_Law_law_1001 (by decide) ?_
    refine lv_iadd hx hb nd_Law_law_1002 ?_
    refine k_sld (n := n) (j := 3) hx hb hX hbl hbA hS (k_sidx rfl) (by omega) hL nd_Law_law_1003 ?_
    refine k_wVI (wr := k_pick (wA qc qm qo ca (va_up I 14 R4) J (va_up (va_up (va_up A 25 R1) 26 R2) 27 R3) L i a l9 R5) [0, 1, 2, 3, 4, 5, 6, 7, 8, 9, 10, 11, 12, 13, 14, 15, 16, 17, 18, 19, 20, 21, 22, 23, 24, 25, 26, 27, 28, 29, 30, 31, 32, 33, 34, 35, 36, 37, 38, 39, 40, 41, 42, 43, 44, 45, 46, 47, 48, 49, 50, 51, 52, 53, 54, 55, 56, 57, 58, 59, 60, 61, 62, 64, 65, 66, 67, 68, 69, 70, 71, 72, 73, 74, 75, 76, 77, 78, 79, 83, 84, 85, 86, 87, 88]) (w2 := wA qc qm qo ca (va_up I 14 R4) J (va_up (va_up (va_up A 25 R1) 26 R2) 27 R3) L (va_up (va_up i 0 S1) 7 S5) (va_up (va_up (va_up a 12 S2) 13 S3) 14 S4) l9 R5) (As := [.int (xs (n + 1)), .int (xs (n + 2)), .int (xs (n + 3))]) (rest := []) (r := S0) hx hb hml hown hts (cn_Model_rule l D ca (qm 0) (qm 1) (qm 2) (qm 3) (qm 4) (qm 5) (qm 6) (qm 7) (qm 8) (qm 9) (qm 10) (qm 11) (qm 12) (qm 13) (qm 14) (qm 15) (qm 16) (qm 17) (qm 18) (qm 19) (qm 20) (qm 21) (qm 22) (qm 23) (qm 24) (i 0) (i 1) (i 2) (i 3) (i 4) (i 5) (i 6) (i 7) (a 12) (a 13) (a 14) (xs (n + 1)) (xs (n + 2)) (xs (n + 3)) S0 S1 S2 S3 S4 S5 e2 _) kc_Model_rule kv_Model_rule tt_960 ⟨by decide, by decide⟩ rfl rfl hP hK hD hS hA [63, 80, 81, 82] [0, 1, 2, 3, 4, 5, 6, 7, 8, 9, 10, 11, 12, 13, 14, 15, 16, 17, 18, 19, 20, 21, 22, 23, 24, 25, 26, 27, 28, 29, 30, 31, 32, 33, 34, 35, 36, 37, 38, 39, 40, 41, 42, 43, 44, 45, 46, 47, 48, 49, 50, 51, 52, 53, 54, 55, 56, 57, 58, 59, 60, 61, 62, 64, 65, 66, 67, 68, 69, 70, 71, 72, 73, 74, 75, 76, 77, 78, 79, 83, 84, 85, 86, 87, 88] [0, 1, 2, 3, 4, 5, 6, 7, 8, 9, 10, 11, 12, 13, 14, 15, 16, 17, 18, 19, 20, 21, 22, 23, 24, 25, 26, 27, 28, 29, 30, 31, 32, 33, 34, 35, 36, 37, 38, 39, 40, 41, 42, 43, 44, 45, 46, 47, 48, 49, 50, 51, 52, 53, 54, 55, 56, 57, 58, 59, 60, 61, 62, 85, 63, 64, 65, 66, 67, 68, 69, 70, 71, 72, 73, 74, 75, 76, 77, 78, 86, 87, 88, 79, 80, 81, 82, 83, 84] rfl (by decide) rfl (by decide) (by decide) rfl (by decide) 0 rfl rfl rfl rfl hl.1 (Nat.le_of_ble_eq_true rfl) rfl nd_Law_law_1004 ⟨by show _ ≤ 601024; omega, by show _ ≤ 7293034; omega⟩ (fun H locs hP hD hS => ?_)
    refine lv_istore (lv' := [(6, .int S0), (5, .int 0), (4, .int (nI n)), (3, .ref qo), (2, .ref (qm 0)), (1, .ref (qc 0)), (0, .ref b)]) hx hb nd_Law_law_1007 hl (by decide) rfl (fun ls hl => ?_)
    refine lv_aload_n hx hb nd_Law_law_1009 rfl (lv_at hl 4 rfl) ?_
    refine k_rVI (As := []) (rest := []) (r := S1) hx hb hml hown hts (cn_Model_thrown l D ca (qm 0) (qm 1) (qm 2) (qm 3) (qm 4) (qm 5) (qm 6) (qm 7) (qm 8) (qm 9) (qm 10) (qm 11) (qm 12) (qm 13) (qm 14) (qm 15) (qm 16) (qm 17) (qm 18) (qm 19) (qm 20) (qm 21) (qm 22) (qm 23) (qm 24) ((va_up (va_up i 0 S1) 7 S5) 0) ((va_up (va_up i 0 S1) 7 S5) 1) ((va_up (va_up i 0 S1) 7 S5) 2) ((va_up (va_up i 0 S1) 7 S5) 3) ((va_up (va_up i 0 S1) 7 S5) 4) ((va_up (va_up i 0 S1) 7 S5) 5) ((va_up (va_up i 0 S1) 7 S5) 6) ((va_up (va_up i 0 S1) 7 S5) 7) S1 rfl) kc_Model_thrown kv_Model_thrown tt_820 ⟨by decide, by decide⟩ rfl rfl hP hK [63] rfl 0 rfl rfl rfl rfl hl.1 (Nat.le_of_ble_eq_true rfl) rfl nd_Law_law_1010 ⟨by show _ ≤ 601024; omega, by show _ ≤ 7293034; omega⟩ ?_
    refine lv_iload hx hb nd_Law_law_1013 (lv_at hl 1 rfl) ?_
    refine lv_icmp_eq (tgt := 1020) hx hb nd_Law_law_1015 (by decide) (fun c1 => ?_) (fun c1 => ?_)
    rotate_left
    · exact absurd et c1
    refine lv_iload hx hb nd_Law_law_1020 (lv_at hl 1 rfl) ?_
    refine lv_if_ne (tgt := 1037) hx hb nd_Law_law_1022 (by decide) (fun c2 => ?_) (fun c2 => ?_)
    · exact absurd rfl c2
    refine lv_aload_n hx hb nd_Law_law_1025 rfl (lv_at hl 3 rfl) ?_
    refine lv_iconst (v := 0) hx hb nd_Law_law_1026 (by decide) ?_
    refine va_lald hx hb hK hP 88 1 rfl rfl (by unfold vp_in; decide) nd_Law_law_1027 ?_
    refine lv_iload hx hb nd_Law_law_1028 (lv_at hl 0 rfl) ?_
    refine lv_i2l hx hb nd_Law_law_1030 rfl ?_
    refine W.lcmp hx hb nd_Law_law_1031 ?_
    refine lv_if_eq (tgt := 1037) hx hb nd_Law_law_1032 (by decide) (fun c3 => ?_) (fun c3 => ?_)
    rotate_left
    · exact absurd ea c3
    refine lv_goto (tgt := 1452) hx hb nd_Law_law_1037 (by decide) ?_
    refine W.widen (k := 400 + n + 1) (n := 20000 + 6 * n + 6) (by omega) (by omega) ?_
    exact hnext _ _ _ _ _ _ _ _ _ _ _ hRel hP hD hS (lv_sub hl [2, 3, 4, 5, 6] rfl)
  ·
    refine lv_aload_n hx hb nd_Law_law_960 rfl (lv_at hl 3 rfl) ?_
    refine lv_aload_n hx hb nd_Law_law_961 rfl (lv_at hl 4 rfl) ?_
    refine lv_iload hx hb nd_Law_law_962 (lv_at hl 0 rfl) ?_
    refine lv_iconst (v := 1) hx hb nd_Law_law_964 (by decide) ?_
    refine lv_iadd hx hb nd_Law_law_965 ?_
    refine k_sld (n := n) (j := 1) hx hb hX hbl hbA hS (k_sidx rfl) (by omega) hL nd_Law_law_966 ?_
    refine lv_aload_n hx hb nd_Law_law_967 rfl (lv_at hl 4 rfl) ?_
    refine lv_iload hx hb nd_Law_law_968 (lv_at hl 0 rfl) ?_
    refine lv_iconst (v := 2) hx hb nd_Law_law_970 (by decide) ?_
    refine lv_iadd hx hb nd_Law_law_971 ?_
    refine k_sld (n := n) (j := 2) hx hb hX hbl hbA hS (k_sidx rfl) (by omega) hL nd_Law_law_972 ?_
    refine lv_aload_n hx hb nd_Law_law_973 rfl (lv_at hl 4 rfl) ?_
    refine lv_iload hx hb nd_Law_law_974 (lv_at hl 0 rfl) ?_
    refine lv_iconst (v := 3) hx hb nd_Law_law_976 (by decide) ?_
    refine lv_iadd hx hb nd_Law_law_977 ?_
    refine k_sld (n := n) (j := 3) hx hb hX hbl hbA hS (k_sidx rfl) (by omega) hL nd_Law_law_978 ?_
    refine lv_aload_n hx hb nd_Law_law_979 rfl (lv_at hl 1 rfl) ?_
    refine k_wSWX (wr := k_pick (wA qc qm qo ca I J A L i a l9 o) [1, 2, 3, 4, 5, 6, 7, 8, 9, 10, 11, 12, 13, 14, 15, 16, 17, 18, 19, 20, 21, 22, 23, 24, 25, 26, 27, 28, 29, 30, 31, 32, 33, 34, 35, 36, 37, 38, 39, 40, 41, 42, 43, 44, 45, 46, 47, 52, 53, 54, 55, 56, 57, 58, 59, 60, 61, 62, 63, 64, 65, 66, 67, 68, 69, 70, 71, 72, 73, 74, 75, 76, 77, 78, 79, 80, 81, 82, 83, 84, 85, 86, 87]) (w2 := wA qc qm qo ca I J A L i a l9 o) (As := [.ref (qc 0), .int (xs (n + 1)), .int (xs (n + 2)), .int (xs (n + 3)), .ref qo]) (rest := []) (r := 1) hx hb hml hown hts (hx_Law_rule_2 l hlt D ca (qc 0) (qc 1) (qc 19) (qc 34) (qc 47) (qc 48) (qc 58) (qc 49) (qc 50) (qc 51) (qc 52) (qc 53) qo (I 0) (I 14) (A 25) (A 26) (A 27) o (xs (n + 1)) (xs (n + 2)) (xs (n + 3)) e1 _) kc_Law_rule ks_Law_rule tt_585 ⟨by decide, by decide⟩ rfl rfl hP hK hD hS hA hev [0, 48, 49, 50, 51, 88] [1, 2, 3, 4, 5, 6, 7, 8, 9, 10, 11, 12, 13, 14, 15, 16, 17, 18, 19, 20, 21, 22, 23, 24, 25, 26, 27, 28, 29, 30, 31, 32, 33, 34, 35, 36, 37, 38, 39, 40, 41, 42, 43, 44, 45, 46, 47, 52, 53, 54, 55, 56, 57, 58, 59, 60, 61, 62, 63, 64, 65, 66, 67, 68, 69, 70, 71, 72, 73, 74, 75, 76, 77, 78, 79, 80, 81, 82, 83, 84, 85, 86, 87] [83, 0, 1, 2, 3, 4, 5, 6, 7, 8, 9, 10, 11, 12, 13, 14, 15, 16, 17, 18, 19, 20, 21, 22, 23, 24, 25, 26, 27, 28, 29, 30, 31, 32, 33, 34, 35, 36, 37, 38, 39, 40, 41, 42, 43, 44, 45, 46, 84, 85, 86, 87, 47, 48, 49, 50, 51, 52, 53, 54, 55, 56, 57, 58, 59, 60, 61, 62, 63, 64, 65, 66, 67, 68, 69, 70, 71, 72, 73, 74, 75, 76, 77, 78, 79, 80, 81, 82, 88] rfl (by decide) rfl (by decide) (by decide) rfl (by decide) rfl hl.1 (Nat.le_of_ble_eq_true rfl) rfl nd_Law_law_980 ⟨by show _ ≤ 601024; omega, by show _ ≤ 7293034; omega⟩ (fun H locs hP hD hS => ?_)
    refine W.widen (k := 400 + n + 1) (n := 20000 + 6 * n + 6) (by omega) (by omega) ?_
    refine lv_istore (lv' := [(5, .int 1), (4, .int (nI n)), (3, .ref qo), (2, .ref (qm 0)), (1, .ref (qc 0)), (0, .ref b)]) hx hb nd_Law_law_983 hl (by decide) rfl (fun ls hl => ?_)
    refine lv_aload_n hx hb nd_Law_law_985 rfl (lv_at hl 3 rfl) ?_
    refine lv_aload_n hx hb nd_Law_law_986 rfl (lv_at hl 5 rfl) ?_
    refine lv_iload hx hb nd_Law_law_987 (lv_at hl 1 rfl) ?_
    refine lv_iconst (v := 1) hx hb nd_Law_law_989 (by decide) ?_
    refine lv_iadd hx hb nd_Law_law_990 ?_
    refine k_sld (n := n) (j := 1) hx hb hX hbl hbA hS (k_sidx rfl) (by omega) hL nd_Law_law_991 ?_
    refine lv_aload_n hx hb nd_Law_law_992 rfl (lv_at hl 5 rfl) ?_
    refine lv_iload hx hb nd_Law_law_993 (lv_at hl 1 rfl) ?_
    refine lv_iconst (v := 2) hx hb nd_Law_law_995 (by decide) ?_
    refine lv_iadd hx hb nd_Law_law_996 ?_
    refine k_sld (n := n) (j := 2) hx hb hX hbl hbA hS (k_sidx rfl) (by omega) hL nd_Law_law_997 ?_
    refine lv_aload_n hx hb nd_Law_law_998 rfl (lv_at hl 5 rfl) ?_
    refine lv_iload hx hb nd_Law_law_999 (lv_at hl 1 rfl) ?_
    refine lv_iconst (v := 3) hx hb nd_Law_law_1001 (by decide) ?_
    refine lv_iadd hx hb nd_Law_law_1002 ?_
    refine k_sld (n := n) (j := 3) hx hb hX hbl hbA hS (k_sidx rfl) (by omega) hL nd_Law_law_1003 ?_
    refine k_wVI (wr := k_pick (wA qc qm qo ca I J A L i a l9 o) [0, 1, 2, 3, 4, 5, 6, 7, 8, 9, 10, 11, 12, 13, 14, 15, 16, 17, 18, 19, 20, 21, 22, 23, 24, 25, 26, 27, 28, 29, 30, 31, 32, 33, 34, 35, 36, 37, 38, 39, 40, 41, 42, 43, 44, 45, 46, 47, 48, 49, 50, 51, 52, 53, 54, 55, 56, 57, 58, 59, 60, 61, 62, 64, 65, 66, 67, 68, 69, 70, 71, 72, 73, 74, 75, 76, 77, 78, 79, 83, 84, 85, 86, 87, 88]) (w2 := wA qc qm qo ca I J A L (va_up (va_up i 0 S1) 7 S5) (va_up (va_up (va_up a 12 S2) 13 S3) 14 S4) l9 o) (As := [.int (xs (n + 1)), .int (xs (n + 2)), .int (xs (n + 3))]) (rest := []) (r := S0) hx hb hml hown hts (cn_Model_rule l D ca (qm 0) (qm 1) (qm 2) (qm 3) (qm 4) (qm 5) (qm 6) (qm 7) (qm 8) (qm 9) (qm 10) (qm 11) (qm 12) (qm 13) (qm 14) (qm 15) (qm 16) (qm 17) (qm 18) (qm 19) (qm 20) (qm 21) (qm 22) (qm 23) (qm 24) (i 0) (i 1) (i 2) (i 3) (i 4) (i 5) (i 6) (i 7) (a 12) (a 13) (a 14) (xs (n + 1)) (xs (n + 2)) (xs (n + 3)) S0 S1 S2 S3 S4 S5 e2 _) kc_Model_rule kv_Model_rule tt_960 ⟨by decide, by decide⟩ rfl rfl hP hK hD hS hA [63, 80, 81, 82] [0, 1, 2, 3, 4, 5, 6, 7, 8, 9, 10, 11, 12, 13, 14, 15, 16, 17, 18, 19, 20, 21, 22, 23, 24, 25, 26, 27, 28, 29, 30, 31, 32, 33, 34, 35, 36, 37, 38, 39, 40, 41, 42, 43, 44, 45, 46, 47, 48, 49, 50, 51, 52, 53, 54, 55, 56, 57, 58, 59, 60, 61, 62, 64, 65, 66, 67, 68, 69, 70, 71, 72, 73, 74, 75, 76, 77, 78, 79, 83, 84, 85, 86, 87, 88] [0, 1, 2, 3, 4, 5, 6, 7, 8, 9, 10, 11, 12, 13, 14, 15, 16, 17, 18, 19, 20, 21, 22, 23, 24, 25, 26, 27, 28, 29, 30, 31, 32, 33, 34, 35, 36, 37, 38, 39, 40, 41, 42, 43, 44, 45, 46, 47, 48, 49, 50, 51, 52, 53, 54, 55, 56, 57, 58, 59, 60, 61, 62, 85, 63, 64, 65, 66, 67, 68, 69, 70, 71, 72, 73, 74, 75, 76, 77, 78, 86, 87, 88, 79, 80, 81, 82, 83, 84] rfl (by decide) rfl (by decide) (by decide) rfl (by decide) 0 rfl rfl rfl rfl hl.1 (Nat.le_of_ble_eq_true rfl) rfl nd_Law_law_1004 ⟨by show _ ≤ 601024; omega, by show _ ≤ 7293034; omega⟩ (fun H locs hP hD hS => ?_)
    refine lv_istore (lv' := [(6, .int S0), (5, .int 1), (4, .int (nI n)), (3, .ref qo), (2, .ref (qm 0)), (1, .ref (qc 0)), (0, .ref b)]) hx hb nd_Law_law_1007 hl (by decide) rfl (fun ls hl => ?_)
    refine lv_aload_n hx hb nd_Law_law_1009 rfl (lv_at hl 4 rfl) ?_
    refine k_rVI (As := []) (rest := []) (r := S1) hx hb hml hown hts (cn_Model_thrown l D ca (qm 0) (qm 1) (qm 2) (qm 3) (qm 4) (qm 5) (qm 6) (qm 7) (qm 8) (qm 9) (qm 10) (qm 11) (qm 12) (qm 13) (qm 14) (qm 15) (qm 16) (qm 17) (qm 18) (qm 19) (qm 20) (qm 21) (qm 22) (qm 23) (qm 24) ((va_up (va_up i 0 S1) 7 S5) 0) ((va_up (va_up i 0 S1) 7 S5) 1) ((va_up (va_up i 0 S1) 7 S5) 2) ((va_up (va_up i 0 S1) 7 S5) 3) ((va_up (va_up i 0 S1) 7 S5) 4) ((va_up (va_up i 0 S1) 7 S5) 5) ((va_up (va_up i 0 S1) 7 S5) 6) ((va_up (va_up i 0 S1) 7 S5) 7) S1 rfl) kc_Model_thrown kv_Model_thrown tt_820 ⟨by decide, by decide⟩ rfl rfl hP hK [63] rfl 0 rfl rfl rfl rfl hl.1 (Nat.le_of_ble_eq_true rfl) rfl nd_Law_law_1010 ⟨by show _ ≤ 601024; omega, by show _ ≤ 7293034; omega⟩ ?_
    refine lv_iload hx hb nd_Law_law_1013 (lv_at hl 1 rfl) ?_
    refine lv_icmp_eq (tgt := 1020) hx hb nd_Law_law_1015 (by decide) (fun c4 => ?_) (fun c4 => ?_)
    rotate_left
    · exact absurd et c4
    refine lv_iload hx hb nd_Law_law_1020 (lv_at hl 1 rfl) ?_
    refine lv_if_ne (tgt := 1037) hx hb nd_Law_law_1022 (by decide) (fun c5 => ?_) (fun c5 => ?_)
    rotate_left
    · exact absurd c5 (by decide)
    refine lv_goto (tgt := 1452) hx hb nd_Law_law_1037 (by decide) ?_
    refine W.widen (k := 400 + n + 1) (n := 20000 + 6 * n + 6) (by omega) (by omega) ?_
    exact hnext _ _ _ _ _ _ _ _ _ _ _ hRel hP hD hS (lv_sub hl [2, 3, 4, 5, 6] rfl)
  ·
    refine lv_aload_n hx hb nd_Law_law_960 rfl (lv_at hl 3 rfl) ?_
    refine lv_aload_n hx hb nd_Law_law_961 rfl (lv_at hl 4 rfl) ?_
    refine lv_iload hx hb nd_Law_law_962 (lv_at hl 0 rfl) ?_
    refine lv_iconst (v := 1) hx hb nd_Law_law_964 (by decide) ?_
    refine lv_iadd hx hb nd_Law_law_965 ?_
    refine k_sld (n := n) (j := 1) hx hb hX hbl hbA hS (k_sidx rfl) (by omega) hL nd_Law_law_966 ?_
    refine lv_aload_n hx hb nd_Law_law_967 rfl (lv_at hl 4 rfl) ?_
    refine lv_iload hx hb nd_Law_law_968 (lv_at hl 0 rfl) ?_
    refine lv_iconst (v := 2) hx hb nd_Law_law_970 (by decide) ?_
    refine lv_iadd hx hb nd_Law_law_971 ?_
    refine k_sld (n := n) (j := 2) hx hb hX hbl hbA hS (k_sidx rfl) (by omega) hL nd_Law_law_972 ?_
    refine lv_aload_n hx hb nd_Law_law_973 rfl (lv_at hl 4 rfl) ?_
    refine lv_iload hx hb nd_Law_law_974 (lv_at hl 0 rfl) ?_
    refine lv_iconst (v := 3) hx hb nd_Law_law_976 (by decide) ?_
    refine lv_iadd hx hb nd_Law_law_977 ?_
    refine k_sld (n := n) (j := 3) hx hb hX hbl hbA hS (k_sidx rfl) (by omega) hL nd_Law_law_978 ?_
    refine lv_aload_n hx hb nd_Law_law_979 rfl (lv_at hl 1 rfl) ?_
    refine k_wSWX (wr := k_pick (wA qc qm qo ca I J A L i a l9 o) [1, 2, 3, 4, 5, 6, 7, 8, 9, 10, 11, 12, 13, 14, 15, 16, 17, 18, 19, 20, 21, 22, 23, 24, 25, 26, 27, 28, 29, 30, 31, 32, 33, 34, 35, 36, 37, 38, 39, 40, 41, 42, 43, 44, 45, 46, 47, 52, 53, 54, 55, 56, 57, 58, 59, 60, 61, 62, 63, 64, 65, 66, 67, 68, 69, 70, 71, 72, 73, 74, 75, 76, 77, 78, 79, 80, 81, 82, 83, 84, 85, 86, 87]) (w2 := wA qc qm qo ca I J A L i a l9 o) (As := [.ref (qc 0), .int (xs (n + 1)), .int (xs (n + 2)), .int (xs (n + 3)), .ref qo]) (rest := []) (r := 2) hx hb hml hown hts (hx_Law_rule_3 l hlt D ca (qc 0) (qc 1) (qc 19) (qc 34) (qc 47) (qc 48) (qc 58) (qc 49) (qc 50) (qc 51) (qc 52) (qc 53) qo (I 0) (I 14) (A 25) (A 26) (A 27) o (xs (n + 1)) (xs (n + 2)) (xs (n + 3)) e1 _) kc_Law_rule ks_Law_rule tt_585 ⟨by decide, by decide⟩ rfl rfl hP hK hD hS hA hev [0, 48, 49, 50, 51, 88] [1, 2, 3, 4, 5, 6, 7, 8, 9, 10, 11, 12, 13, 14, 15, 16, 17, 18, 19, 20, 21, 22, 23, 24, 25, 26, 27, 28, 29, 30, 31, 32, 33, 34, 35, 36, 37, 38, 39, 40, 41, 42, 43, 44, 45, 46, 47, 52, 53, 54, 55, 56, 57, 58, 59, 60, 61, 62, 63, 64, 65, 66, 67, 68, 69, 70, 71, 72, 73, 74, 75, 76, 77, 78, 79, 80, 81, 82, 83, 84, 85, 86, 87] [83, 0, 1, 2, 3, 4, 5, 6, 7, 8, 9, 10, 11, 12, 13, 14, 15, 16, 17, 18, 19, 20, 21, 22, 23, 24, 25, 26, 27, 28, 29, 30, 31, 32, 33, 34, 35, 36, 37, 38, 39, 40, 41, 42, 43, 44, 45, 46, 84, 85, 86, 87, 47, 48, 49, 50, 51, 52, 53, 54, 55, 56, 57, 58, 59, 60, 61, 62, 63, 64, 65, 66, 67, 68, 69, 70, 71, 72, 73, 74, 75, 76, 77, 78, 79, 80, 81, 82, 88] rfl (by decide) rfl (by decide) (by decide) rfl (by decide) rfl hl.1 (Nat.le_of_ble_eq_true rfl) rfl nd_Law_law_980 ⟨by show _ ≤ 601024; omega, by show _ ≤ 7293034; omega⟩ (fun H locs hP hD hS => ?_)
    refine W.widen (k := 400 + n + 1) (n := 20000 + 6 * n + 6) (by omega) (by omega) ?_
    refine lv_istore (lv' := [(5, .int 2), (4, .int (nI n)), (3, .ref qo), (2, .ref (qm 0)), (1, .ref (qc 0)), (0, .ref b)]) hx hb nd_Law_law_983 hl (by decide) rfl (fun ls hl => ?_)
    refine lv_aload_n hx hb nd_Law_law_985 rfl (lv_at hl 3 rfl) ?_
    refine lv_aload_n hx hb nd_Law_law_986 rfl (lv_at hl 5 rfl) ?_
    refine lv_iload hx hb nd_Law_law_987 (lv_at hl 1 rfl) ?_
    refine lv_iconst (v := 1) hx hb nd_Law_law_989 (by decide) ?_
    refine lv_iadd hx hb nd_Law_law_990 ?_
    refine k_sld (n := n) (j := 1) hx hb hX hbl hbA hS (k_sidx rfl) (by omega) hL nd_Law_law_991 ?_
    refine lv_aload_n hx hb nd_Law_law_992 rfl (lv_at hl 5 rfl) ?_
    refine lv_iload hx hb nd_Law_law_993 (lv_at hl 1 rfl) ?_
    refine lv_iconst (v := 2) hx hb nd_Law_law_995 (by decide) ?_
    refine lv_iadd hx hb nd_Law_law_996 ?_
    refine k_sld (n := n) (j := 2) hx hb hX hbl hbA hS (k_sidx rfl) (by omega) hL nd_Law_law_997 ?_
    refine lv_aload_n hx hb nd_Law_law_998 rfl (lv_at hl 5 rfl) ?_
    refine lv_iload hx hb nd_Law_law_999 (lv_at hl 1 rfl) ?_
    refine lv_iconst (v := 3) hx hb nd_Law_law_1001 (by decide) ?_
    refine lv_iadd hx hb nd_Law_law_1002 ?_
    refine k_sld (n := n) (j := 3) hx hb hX hbl hbA hS (k_sidx rfl) (by omega) hL nd_Law_law_1003 ?_
    refine k_wVI (wr := k_pick (wA qc qm qo ca I J A L i a l9 o) [0, 1, 2, 3, 4, 5, 6, 7, 8, 9, 10, 11, 12, 13, 14, 15, 16, 17, 18, 19, 20, 21, 22, 23, 24, 25, 26, 27, 28, 29, 30, 31, 32, 33, 34, 35, 36, 37, 38, 39, 40, 41, 42, 43, 44, 45, 46, 47, 48, 49, 50, 51, 52, 53, 54, 55, 56, 57, 58, 59, 60, 61, 62, 64, 65, 66, 67, 68, 69, 70, 71, 72, 73, 74, 75, 76, 77, 78, 79, 83, 84, 85, 86, 87, 88]) (w2 := wA qc qm qo ca I J A L (va_up (va_up i 0 S1) 7 S5) (va_up (va_up (va_up a 12 S2) 13 S3) 14 S4) l9 o) (As := [.int (xs (n + 1)), .int (xs (n + 2)), .int (xs (n + 3))]) (rest := []) (r := S0) hx hb hml hown hts (cn_Model_rule l D ca (qm 0) (qm 1) (qm 2) (qm 3) (qm 4) (qm 5) (qm 6) (qm 7) (qm 8) (qm 9) (qm 10) (qm 11) (qm 12) (qm 13) (qm 14) (qm 15) (qm 16) (qm 17) (qm 18) (qm 19) (qm 20) (qm 21) (qm 22) (qm 23) (qm 24) (i 0) (i 1) (i 2) (i 3) (i 4) (i 5) (i 6) (i 7) (a 12) (a 13) (a 14) (xs (n + 1)) (xs (n + 2)) (xs (n + 3)) S0 S1 S2 S3 S4 S5 e2 _) kc_Model_rule kv_Model_rule tt_960 ⟨by decide, by decide⟩ rfl rfl hP hK hD hS hA [63, 80, 81, 82] [0, 1, 2, 3, 4, 5, 6, 7, 8, 9, 10, 11, 12, 13, 14, 15, 16, 17, 18, 19, 20, 21, 22, 23, 24, 25, 26, 27, 28, 29, 30, 31, 32, 33, 34, 35, 36, 37, 38, 39, 40, 41, 42, 43, 44, 45, 46, 47, 48, 49, 50, 51, 52, 53, 54, 55, 56, 57, 58, 59, 60, 61, 62, 64, 65, 66, 67, 68, 69, 70, 71, 72, 73, 74, 75, 76, 77, 78, 79, 83, 84, 85, 86, 87, 88] [0, 1, 2, 3, 4, 5, 6, 7, 8, 9, 10, 11, 12, 13, 14, 15, 16, 17, 18, 19, 20, 21, 22, 23, 24, 25, 26, 27, 28, 29, 30, 31, 32, 33, 34, 35, 36, 37, 38, 39, 40, 41, 42, 43, 44, 45, 46, 47, 48, 49, 50, 51, 52, 53, 54, 55, 56, 57, 58, 59, 60, 61, 62, 85, 63, 64, 65, 66, 67, 68, 69, 70, 71, 72, 73, 74, 75, 76, 77, 78, 86, 87, 88, 79, 80, 81, 82, 83, 84] rfl (by decide) rfl (by decide) (by decide) rfl (by decide) 0 rfl rfl rfl rfl hl.1 (Nat.le_of_ble_eq_true rfl) rfl nd_Law_law_1004 ⟨by show _ ≤ 601024; omega, by show _ ≤ 7293034; omega⟩ (fun H locs hP hD hS => ?_)
    refine lv_istore (lv' := [(6, .int S0), (5, .int 2), (4, .int (nI n)), (3, .ref qo), (2, .ref (qm 0)), (1, .ref (qc 0)), (0, .ref b)]) hx hb nd_Law_law_1007 hl (by decide) rfl (fun ls hl => ?_)
    refine lv_aload_n hx hb nd_Law_law_1009 rfl (lv_at hl 4 rfl) ?_
    refine k_rVI (As := []) (rest := []) (r := S1) hx hb hml hown hts (cn_Model_thrown l D ca (qm 0) (qm 1) (qm 2) (qm 3) (qm 4) (qm 5) (qm 6) (qm 7) (qm 8) (qm 9) (qm 10) (qm 11) (qm 12) (qm 13) (qm 14) (qm 15) (qm 16) (qm 17) (qm 18) (qm 19) (qm 20) (qm 21) (qm 22) (qm 23) (qm 24) ((va_up (va_up i 0 S1) 7 S5) 0) ((va_up (va_up i 0 S1) 7 S5) 1) ((va_up (va_up i 0 S1) 7 S5) 2) ((va_up (va_up i 0 S1) 7 S5) 3) ((va_up (va_up i 0 S1) 7 S5) 4) ((va_up (va_up i 0 S1) 7 S5) 5) ((va_up (va_up i 0 S1) 7 S5) 6) ((va_up (va_up i 0 S1) 7 S5) 7) S1 rfl) kc_Model_thrown kv_Model_thrown tt_820 ⟨by decide, by decide⟩ rfl rfl hP hK [63] rfl 0 rfl rfl rfl rfl hl.1 (Nat.le_of_ble_eq_true rfl) rfl nd_Law_law_1010 ⟨by show _ ≤ 601024; omega, by show _ ≤ 7293034; omega⟩ ?_
    refine lv_iload hx hb nd_Law_law_1013 (lv_at hl 1 rfl) ?_
    refine lv_icmp_eq (tgt := 1020) hx hb nd_Law_law_1015 (by decide) (fun c6 => ?_) (fun c6 => ?_)
    rotate_left
    · exact absurd et c6
    refine lv_iload hx hb nd_Law_law_1020 (lv_at hl 1 rfl) ?_
    refine lv_if_ne (tgt := 1037) hx hb nd_Law_law_1022 (by decide) (fun c7 => ?_) (fun c7 => ?_)
    rotate_left
    · exact absurd c7 (by decide)
    refine lv_goto (tgt := 1452) hx hb nd_Law_law_1037 (by decide) ?_
    refine W.widen (k := 400 + n + 1) (n := 20000 + 6 * n + 6) (by omega) (by omega) ?_
    exact hnext _ _ _ _ _ _ _ _ _ _ _ hRel hP hD hS (lv_sub hl [2, 3, 4, 5, 6] rfl)
set_option maxHeartbeats 8000000 in
set_option maxRecDepth 100000 in
theorem lc_alarm {p : Program} {l : Launch} {e : Env} {s : State} {m : MethodId} {below : List Frame} {meth : Method} {c : Code} {D : va_G} {ca : Nat → ClassId} {b Ls : Nat} {xs : Nat → Int32} (C0 : lw_At p s m meth c b Ls xs) (hL : Ls ≤ 2560) (hlt : l.stackTraces = false) (hev0 : xt_ev s s.heap) (hK : va_K D vwCl (tyG ca) s) {Rel : (Nat → Int32) → (Nat → Int64) → (Nat → Nat → Int32) → (Nat → Nat → Int64) → (Nat → Int32) → (Nat → Nat → Int32) → (Nat → Nat → Int64) → Prop} {qc qm : Nat → Nat} {qo : Nat} {I : Nat → Int32} {J : Nat → Int64} {A : Nat → Nat → Int32} {L : Nat → Nat → Int64} {i : Nat → Int32} {a : Nat → Nat → Int32} {l9 : Nat → Nat → Int64} {o : Nat → Int64} {n : Nat} (hn : n + 5 ≤ Ls) {H : Heap} {locs : List Loc} {ls : Array Slot} (hP : va_P D vwCl (wA qc qm qo ca I J A L i a l9 o) H) (hD : va_D (fun q : Nat => s.heap.size ≤ q) (wA qc qm qo ca I J A L i a l9 o)) (hS : va_S (fun q : Nat => s.heap.size ≤ q) s.heap H locs) (hl : lv_has ls 8 [(4, .int (nI n)), (3, .ref qo), (2, .ref (qm 0)), (1, .ref (qc 0)), (0, .ref b)]) (hst : st_alarm Rel I J A L i a l9 o (xs (n + 1)) (xs (n + 2))) (hnext : ∀ (I : Nat → Int32) (J : Nat → Int64) (A : Nat → Nat → Int32) (L : Nat → Nat → Int64) (i : Nat → Int32) (a : Nat → Nat → Int32) (l9 : Nat → Nat → Int64) (o : Nat → Int64) (H : Heap) (locs : List Loc) (ls : Array Slot), Rel I J A L i a l9 → va_P D vwCl (wA qc qm qo ca I J A L i a l9 o) H → va_D (fun q : Nat => s.heap.size ≤ q) (wA qc qm qo ca I J A L i a l9 o) → va_S (fun q : Nat => s.heap.size ≤ q) s.heap H locs → lv_has ls 8 [(4, .int (nI n)), (3, .ref qo), (2, .ref (qm 0)), (1, .ref (qc 0)), (0, .ref b)] → W p l e room_1 s m #[Value.ref b] below meth c H locs (400 + n + 1) (20000 + 6 * n + 6) (lw_Z below #[Value.ref b] s) (F0 m 1452 ls [])) : W p l e room_1 s m #[Value.ref b] below meth c H locs (400 + n) (20000 + 6 * n) (lw_Z below #[Value.ref b] s) (F0 m 1040 ls []) := by
  obtain ⟨hx, hb, hr, hml, hown, hts0, hX, hbl, hlocks, hgv⟩ := C0
  have hts : ∀ w ∈ TT, w.before #[Value.ref b] s = true := fun w h => hts0 w (List.mem_filter.mp h).1
  have hA : ∀ q : Nat, s.heap.size ≤ q → (fun q : Nat => s.heap.size ≤ q) q := fun _ h => h
  have hbA : ¬ (fun q : Nat => s.heap.size ≤ q) b := Nat.not_le.mpr hbl
  have hown : s.vm.findClass nR_Law = some m.cls := hown
  have hev : xt_ev s H := k_evH hev0 hS
  unfold st_alarm at hst
  rcases hst with ⟨R1, S0, S1, e1, e2, et, ea, hRel⟩ | ⟨S0, S1, e1, e2, et, hRel⟩
  ·
    refine lv_aload_n hx hb nd_Law_law_1040 rfl (lv_at hl 3 rfl) ?_
    refine lv_aload_n hx hb nd_Law_law_1041 rfl (lv_at hl 4 rfl) ?_
    refine lv_iload hx hb nd_Law_law_1042 (lv_at hl 0 rfl) ?_
    refine lv_iconst (v := 1) hx hb nd_Law_law_1044 (by decide) ?_
    refine lv_iadd hx hb nd_Law_law_1045 ?_
    refine k_sld (n := n) (j := 1) hx hb hX hbl hbA hS (k_sidx rfl) (by omega) hL nd_Law_law_1046 ?_
    refine lv_aload_n hx hb nd_Law_law_1047 rfl (lv_at hl 4 rfl) ?_
    refine lv_iload hx hb nd_Law_law_1048 (lv_at hl 0 rfl) ?_
    refine lv_iconst (v := 2) hx hb nd_Law_law_1050 (by decide) ?_
    refine lv_iadd hx hb nd_Law_law_1051 ?_
    refine k_sld (n := n) (j := 2) hx hb hX hbl hbA hS (k_sidx rfl) (by omega) hL nd_Law_law_1052 ?_
    refine lv_aload_n hx hb nd_Law_law_1053 rfl (lv_at hl 1 rfl) ?_
    refine k_wSWI (wr := k_pick (wA qc qm qo ca I J A L i a l9 o) [1, 2, 3, 4, 5, 6, 7, 8, 9, 10, 11, 12, 13, 14, 15, 16, 17, 18, 19, 20, 21, 22, 23, 24, 25, 26, 27, 28, 29, 30, 31, 32, 33, 34, 35, 36, 37, 38, 39, 40, 41, 42, 43, 44, 45, 46, 47, 49, 50, 51, 58, 59, 60, 61, 62, 63, 64, 65, 66, 67, 68, 69, 70, 71, 72, 73, 74, 75, 76, 77, 78, 79, 80, 81, 82, 83, 84, 85, 86, 87]) (w2 := wA qc qm qo ca I J A L i a l9 R1) (As := [.ref (qc 0), .int (xs (n + 1)), .int (xs (n + 2)), .ref qo]) (rest := []) (r := 0) hx hb hml hown hts (cn_Law_alarm l D ca (qc 0) (qc 1) (qc 19) (qc 34) (qc 47) (qc 48) (qc 58) (qc 49) (qc 50) (qc 51) (qc 52) (qc 53) (qc 54) (qc 55) (qc 56) (qc 57) qo (I 0) (I 14) (A 28) (A 29) (A 30) (A 31) (A 32) o (xs (n + 1)) (xs (n + 2)) (0 : Int32) R1 e1 _) kc_Law_alarm ks_Law_alarm tt_596 ⟨by decide, by decide⟩ rfl rfl hP hK hD hS hA [0, 48, 52, 53, 54, 55, 56, 57, 88] [1, 2, 3, 4, 5, 6, 7, 8, 9, 10, 11, 12, 13, 14, 15, 16, 17, 18, 19, 20, 21, 22, 23, 24, 25, 26, 27, 28, 29, 30, 31, 32, 33, 34, 35, 36, 37, 38, 39, 40, 41, 42, 43, 44, 45, 46, 47, 49, 50, 51, 58, 59, 60, 61, 62, 63, 64, 65, 66, 67, 68, 69, 70, 71, 72, 73, 74, 75, 76, 77, 78, 79, 80, 81, 82, 83, 84, 85, 86, 87] [80, 0, 1, 2, 3, 4, 5, 6, 7, 8, 9, 10, 11, 12, 13, 14, 15, 16, 17, 18, 19, 20, 21, 22, 23, 24, 25, 26, 27, 28, 29, 30, 31, 32, 33, 34, 35, 36, 37, 38, 39, 40, 41, 42, 43, 44, 45, 46, 81, 47, 48, 49, 82, 83, 84, 85, 86, 87, 50, 51, 52, 53, 54, 55, 56, 57, 58, 59, 60, 61, 62, 63, 64, 65, 66, 67, 68, 69, 70, 71, 72, 73, 74, 75, 76, 77, 78, 79, 88] rfl (by decide) rfl (by decide) (by decide) rfl (by decide) rfl hl.1 (Nat.le_of_ble_eq_true rfl) rfl nd_Law_law_1054 ⟨by show _ ≤ 601024; omega, by show _ ≤ 7293034; omega⟩ (fun H locs hP hD hS => ?_)
    refine W.widen (k := 400 + n) (n := 20000 + 6 * n) (by omega) (by omega) ?_
    refine lv_istore (lv' := [(5, .int 0), (4, .int (nI n)), (3, .ref qo), (2, .ref (qm 0)), (1, .ref (qc 0)), (0, .ref b)]) hx hb nd_Law_law_1057 hl (by decide) rfl (fun ls hl => ?_)
    refine lv_aload_n hx hb nd_Law_law_1059 rfl (lv_at hl 3 rfl) ?_
    refine lv_aload_n hx hb nd_Law_law_1060 rfl (lv_at hl 5 rfl) ?_
    refine lv_iload hx hb nd_Law_law_1061 (lv_at hl 1 rfl) ?_
    refine lv_iconst (v := 1) hx hb nd_Law_law_1063 (by decide) ?_
    refine lv_iadd hx hb nd_Law_law_1064 ?_
    refine k_sld (n := n) (j := 1) hx hb hX hbl hbA hS (k_sidx rfl) (by omega) hL nd_Law_law_1065 ?_
    refine lv_aload_n hx hb nd_Law_law_1066 rfl (lv_at hl 5 rfl) ?_
    refine lv_iload hx hb nd_Law_law_1067 (lv_at hl 1 rfl) ?_
    refine lv_iconst (v := 2) hx hb nd_Law_law_1069 (by decide) ?_
    refine lv_iadd hx hb nd_Law_law_1070 ?_
    refine k_sld (n := n) (j := 2) hx hb hX hbl hbA hS (k_sidx rfl) (by omega) hL nd_Law_law_1071 ?_
    refine k_wVI (wr := k_pick (wA qc qm qo ca I J A L i a l9 R1) [0, 1, 2, 3, 4, 5, 6, 7, 8, 9, 10, 11, 12, 13, 14, 15, 16, 17, 18, 19, 20, 21, 22, 23, 24, 25, 26, 27, 28, 29, 30, 31, 32, 33, 34, 35, 36, 37, 38, 39, 40, 41, 42, 43, 44, 45, 46, 47, 48, 49, 50, 51, 52, 53, 54, 55, 56, 57, 58, 59, 60, 61, 62, 64, 65, 66, 67, 68, 69, 70, 71, 72, 73, 74, 75, 76, 77, 78, 79, 80, 81, 82, 85, 86, 87, 88]) (w2 := wA qc qm qo ca I J A L (va_up i 0 S1) a l9 R1) (As := [.int (xs (n + 1)), .int (xs (n + 2))]) (rest := []) (r := S0) hx hb hml hown hts (cn_Model_alarm l D ca (qm 0) (qm 1) (qm 2) (qm 3) (qm 4) (qm 5) (qm 6) (qm 7) (qm 8) (qm 9) (qm 10) (qm 11) (qm 12) (qm 13) (qm 14) (qm 15) (qm 16) (qm 17) (qm 18) (qm 19) (qm 20) (qm 21) (qm 22) (qm 23) (qm 24) (i 0) (i 1) (i 2) (i 3) (i 4) (i 5) (i 6) (i 7) (a 15) (a 16) (xs (n + 1)) (xs (n + 2)) S0 S1 e2 _) kc_Model_alarm kv_Model_alarm tt_964 ⟨by decide, by decide⟩ rfl rfl hP hK hD hS hA [63, 83, 84] [0, 1, 2, 3, 4, 5, 6, 7, 8, 9, 10, 11, 12, 13, 14, 15, 16, 17, 18, 19, 20, 21, 22, 23, 24, 25, 26, 27, 28, 29, 30, 31, 32, 33, 34, 35, 36, 37, 38, 39, 40, 41, 42, 43, 44, 45, 46, 47, 48, 49, 50, 51, 52, 53, 54, 55, 56, 57, 58, 59, 60, 61, 62, 64, 65, 66, 67, 68, 69, 70, 71, 72, 73, 74, 75, 76, 77, 78, 79, 80, 81, 82, 85, 86, 87, 88] [0, 1, 2, 3, 4, 5, 6, 7, 8, 9, 10, 11, 12, 13, 14, 15, 16, 17, 18, 19, 20, 21, 22, 23, 24, 25, 26, 27, 28, 29, 30, 31, 32, 33, 34, 35, 36, 37, 38, 39, 40, 41, 42, 43, 44, 45, 46, 47, 48, 49, 50, 51, 52, 53, 54, 55, 56, 57, 58, 59, 60, 61, 62, 86, 63, 64, 65, 66, 67, 68, 69, 70, 71, 72, 73, 74, 75, 76, 77, 78, 79, 80, 81, 87, 88, 82, 83, 84, 85] rfl (by decide) rfl (by decide) (by decide) rfl (by decide) 0 rfl rfl rfl rfl hl.1 (Nat.le_of_ble_eq_true rfl) rfl nd_Law_law_1072 ⟨by show _ ≤ 601024; omega, by show _ ≤ 7293034; omega⟩ (fun H locs hP hD hS => ?_)
    refine lv_istore (lv' := [(6, .int S0), (5, .int 0), (4, .int (nI n)), (3, .ref qo), (2, .ref (qm 0)), (1, .ref (qc 0)), (0, .ref b)]) hx hb nd_Law_law_1075 hl (by decide) rfl (fun ls hl => ?_)
    refine lv_aload_n hx hb nd_Law_law_1077 rfl (lv_at hl 4 rfl) ?_
    refine k_rVI (As := []) (rest := []) (r := S1) hx hb hml hown hts (cn_Model_thrown l D ca (qm 0) (qm 1) (qm 2) (qm 3) (qm 4) (qm 5) (qm 6) (qm 7) (qm 8) (qm 9) (qm 10) (qm 11) (qm 12) (qm 13) (qm 14) (qm 15) (qm 16) (qm 17) (qm 18) (qm 19) (qm 20) (qm 21) (qm 22) (qm 23) (qm 24) ((va_up i 0 S1) 0) ((va_up i 0 S1) 1) ((va_up i 0 S1) 2) ((va_up i 0 S1) 3) ((va_up i 0 S1) 4) ((va_up i 0 S1) 5) ((va_up i 0 S1) 6) ((va_up i 0 S1) 7) S1 rfl) kc_Model_thrown kv_Model_thrown tt_820 ⟨by decide, by decide⟩ rfl rfl hP hK [63] rfl 0 rfl rfl rfl rfl hl.1 (Nat.le_of_ble_eq_true rfl) rfl nd_Law_law_1078 ⟨by show _ ≤ 601024; omega, by show _ ≤ 7293034; omega⟩ ?_
    refine lv_iload hx hb nd_Law_law_1081 (lv_at hl 1 rfl) ?_
    refine lv_icmp_eq (tgt := 1088) hx hb nd_Law_law_1083 (by decide) (fun c1 => ?_) (fun c1 => ?_)
    rotate_left
    · exact absurd et c1
    refine lv_iload hx hb nd_Law_law_1088 (lv_at hl 1 rfl) ?_
    refine lv_if_ne (tgt := 1105) hx hb nd_Law_law_1090 (by decide) (fun c2 => ?_) (fun c2 => ?_)
    · exact absurd rfl c2
    refine lv_aload_n hx hb nd_Law_law_1093 rfl (lv_at hl 3 rfl) ?_
    refine lv_iconst (v := 0) hx hb nd_Law_law_1094 (by decide) ?_
    refine va_lald hx hb hK hP 88 1 rfl rfl (by unfold vp_in; decide) nd_Law_law_1095 ?_
    refine lv_iload hx hb nd_Law_law_1096 (lv_at hl 0 rfl) ?_
    refine lv_i2l hx hb nd_Law_law_1098 rfl ?_
    refine W.lcmp hx hb nd_Law_law_1099 ?_
    refine lv_if_eq (tgt := 1105) hx hb nd_Law_law_1100 (by decide) (fun c3 => ?_) (fun c3 => ?_)
    rotate_left
    · exact absurd ea c3
    refine lv_goto (tgt := 1452) hx hb nd_Law_law_1105 (by decide) ?_
    refine W.widen (k := 400 + n + 1) (n := 20000 + 6 * n + 6) (by omega) (by omega) ?_
    exact hnext _ _ _ _ _ _ _ _ _ _ _ hRel hP hD hS (lv_sub hl [2, 3, 4, 5, 6] rfl)
  ·
    refine lv_aload_n hx hb nd_Law_law_1040 rfl (lv_at hl 3 rfl) ?_
    refine lv_aload_n hx hb nd_Law_law_1041 rfl (lv_at hl 4 rfl) ?_
    refine lv_iload hx hb nd_Law_law_1042 (lv_at hl 0 rfl) ?_
    refine lv_iconst (v := 1) hx hb nd_Law_law_1044 (by decide) ?_
    refine lv_iadd hx hb nd_Law_law_1045 ?_
    refine k_sld (n := n) (j := 1) hx hb hX hbl hbA hS (k_sidx rfl) (by omega) hL nd_Law_law_1046 ?_
    refine lv_aload_n hx hb nd_Law_law_1047 rfl (lv_at hl 4 rfl) ?_
    refine lv_iload hx hb nd_Law_law_1048 (lv_at hl 0 rfl) ?_
    refine lv_iconst (v := 2) hx hb nd_Law_law_1050 (by decide) ?_
    refine lv_iadd hx hb nd_Law_law_1051 ?_
    refine k_sld (n := n) (j := 2) hx hb hX hbl hbA hS (k_sidx rfl) (by omega) hL nd_Law_law_1052 ?_
    refine lv_aload_n hx hb nd_Law_law_1053 rfl (lv_at hl 1 rfl) ?_
    refine k_wSWX (wr := k_pick (wA qc qm qo ca I J A L i a l9 o) [1, 2, 3, 4, 5, 6, 7, 8, 9, 10, 11, 12, 13, 14, 15, 16, 17, 18, 19, 20, 21, 22, 23, 24, 25, 26, 27, 28, 29, 30, 31, 32, 33, 34, 35, 36, 37, 38, 39, 40, 41, 42, 43, 44, 45, 46, 47, 49, 50, 51, 58, 59, 60, 61, 62, 63, 64, 65, 66, 67, 68, 69, 70, 71, 72, 73, 74, 75, 76, 77, 78, 79, 80, 81, 82, 83, 84, 85, 86, 87]) (w2 := wA qc qm qo ca I J A L i a l9 o) (As := [.ref (qc 0), .int (xs (n + 1)), .int (xs (n + 2)), .ref qo]) (rest := []) (r := 1) hx hb hml hown hts (hx_Law_alarm_1 l hlt D ca (qc 0) (qc 1) (qc 19) (qc 34) (qc 47) (qc 48) (qc 58) (qc 49) (qc 50) (qc 51) (qc 52) (qc 53) (qc 54) (qc 55) (qc 56) (qc 57) qo (I 0) (I 14) (A 28) (A 29) (A 30) (A 31) (A 32) o (xs (n + 1)) (xs (n + 2)) e1 _) kc_Law_alarm ks_Law_alarm tt_596 ⟨by decide, by decide⟩ rfl rfl hP hK hD hS hA hev [0, 48, 52, 53, 54, 55, 56, 57, 88] [1, 2, 3, 4, 5, 6, 7, 8, 9, 10, 11, 12, 13, 14, 15, 16, 17, 18, 19, 20, 21, 22, 23, 24, 25, 26, 27, 28, 29, 30, 31, 32, 33, 34, 35, 36, 37, 38, 39, 40, 41, 42, 43, 44, 45, 46, 47, 49, 50, 51, 58, 59, 60, 61, 62, 63, 64, 65, 66, 67, 68, 69, 70, 71, 72, 73, 74, 75, 76, 77, 78, 79, 80, 81, 82, 83, 84, 85, 86, 87] [80, 0, 1, 2, 3, 4, 5, 6, 7, 8, 9, 10, 11, 12, 13, 14, 15, 16, 17, 18, 19, 20, 21, 22, 23, 24, 25, 26, 27, 28, 29, 30, 31, 32, 33, 34, 35, 36, 37, 38, 39, 40, 41, 42, 43, 44, 45, 46, 81, 47, 48, 49, 82, 83, 84, 85, 86, 87, 50, 51, 52, 53, 54, 55, 56, 57, 58, 59, 60, 61, 62, 63, 64, 65, 66, 67, 68, 69, 70, 71, 72, 73, 74, 75, 76, 77, 78, 79, 88] rfl (by decide) rfl (by decide) (by decide) rfl (by decide) rfl hl.1 (Nat.le_of_ble_eq_true rfl) rfl nd_Law_law_1054 ⟨by show _ ≤ 601024; omega, by show _ ≤ 7293034; omega⟩ (fun H locs hP hD hS => ?_)
    refine W.widen (k := 400 + n + 1) (n := 20000 + 6 * n + 6) (by omega) (by omega) ?_
    refine lv_istore (lv' := [(5, .int 1), (4, .int (nI n)), (3, .ref qo), (2, .ref (qm 0)), (1, .ref (qc 0)), (0, .ref b)]) hx hb nd_Law_law_1057 hl (by decide) rfl (fun ls hl => ?_)
    refine lv_aload_n hx hb nd_Law_law_1059 rfl (lv_at hl 3 rfl) ?_
    refine lv_aload_n hx hb nd_Law_law_1060 rfl (lv_at hl 5 rfl) ?_
    refine lv_iload hx hb nd_Law_law_1061 (lv_at hl 1 rfl) ?_
    refine lv_iconst (v := 1) hx hb nd_Law_law_1063 (by decide) ?_
    refine lv_iadd hx hb nd_Law_law_1064 ?_
    refine k_sld (n := n) (j := 1) hx hb hX hbl hbA hS (k_sidx rfl) (by omega) hL nd_Law_law_1065 ?_
    refine lv_aload_n hx hb nd_Law_law_1066 rfl (lv_at hl 5 rfl) ?_
    refine lv_iload hx hb nd_Law_law_1067 (lv_at hl 1 rfl) ?_
    refine lv_iconst (v := 2) hx hb nd_Law_law_1069 (by decide) ?_
    refine lv_iadd hx hb nd_Law_law_1070 ?_
    refine k_sld (n := n) (j := 2) hx hb hX hbl hbA hS (k_sidx rfl) (by omega) hL nd_Law_law_1071 ?_
    refine k_wVI (wr := k_pick (wA qc qm qo ca I J A L i a l9 o) [0, 1, 2, 3, 4, 5, 6, 7, 8, 9, 10, 11, 12, 13, 14, 15, 16, 17, 18, 19, 20, 21, 22, 23, 24, 25, 26, 27, 28, 29, 30, 31, 32, 33, 34, 35, 36, 37, 38, 39, 40, 41, 42, 43, 44, 45, 46, 47, 48, 49, 50, 51, 52, 53, 54, 55, 56, 57, 58, 59, 60, 61, 62, 64, 65, 66, 67, 68, 69, 70, 71, 72, 73, 74, 75, 76, 77, 78, 79, 80, 81, 82, 85, 86, 87, 88]) (w2 := wA qc qm qo ca I J A L (va_up i 0 S1) a l9 o) (As := [.int (xs (n + 1)), .int (xs (n + 2))]) (rest := []) (r := S0) hx hb hml hown hts (cn_Model_alarm l D ca (qm 0) (qm 1) (qm 2) (qm 3) (qm 4) (qm 5) (qm 6) (qm 7) (qm 8) (qm 9) (qm 10) (qm 11) (qm 12) (qm 13) (qm 14) (qm 15) (qm 16) (qm 17) (qm 18) (qm 19) (qm 20) (qm 21) (qm 22) (qm 23) (qm 24) (i 0) (i 1) (i 2) (i 3) (i 4) (i 5) (i 6) (i 7) (a 15) (a 16) (xs (n + 1)) (xs (n + 2)) S0 S1 e2 _) kc_Model_alarm kv_Model_alarm tt_964 ⟨by decide, by decide⟩ rfl rfl hP hK hD hS hA [63, 83, 84] [0, 1, 2, 3, 4, 5, 6, 7, 8, 9, 10, 11, 12, 13, 14, 15, 16, 17, 18, 19, 20, 21, 22, 23, 24, 25, 26, 27, 28, 29, 30, 31, 32, 33, 34, 35, 36, 37, 38, 39, 40, 41, 42, 43, 44, 45, 46, 47, 48, 49, 50, 51, 52, 53, 54, 55, 56, 57, 58, 59, 60, 61, 62, 64, 65, 66, 67, 68, 69, 70, 71, 72, 73, 74, 75, 76, 77, 78, 79, 80, 81, 82, 85, 86, 87, 88] [0, 1, 2, 3, 4, 5, 6, 7, 8, 9, 10, 11, 12, 13, 14, 15, 16, 17, 18, 19, 20, 21, 22, 23, 24, 25, 26, 27, 28, 29, 30, 31, 32, 33, 34, 35, 36, 37, 38, 39, 40, 41, 42, 43, 44, 45, 46, 47, 48, 49, 50, 51, 52, 53, 54, 55, 56, 57, 58, 59, 60, 61, 62, 86, 63, 64, 65, 66, 67, 68, 69, 70, 71, 72, 73, 74, 75, 76, 77, 78, 79, 80, 81, 87, 88, 82, 83, 84, 85] rfl (by decide) rfl (by decide) (by decide) rfl (by decide) 0 rfl rfl rfl rfl hl.1 (Nat.le_of_ble_eq_true rfl) rfl nd_Law_law_1072 ⟨by show _ ≤ 601024; omega, by show _ ≤ 7293034; omega⟩ (fun H locs hP hD hS => ?_)
    refine lv_istore (lv' := [(6, .int S0), (5, .int 1), (4, .int (nI n)), (3, .ref qo), (2, .ref (qm 0)), (1, .ref (qc 0)), (0, .ref b)]) hx hb nd_Law_law_1075 hl (by decide) rfl (fun ls hl => ?_)
    refine lv_aload_n hx hb nd_Law_law_1077 rfl (lv_at hl 4 rfl) ?_
    refine k_rVI (As := []) (rest := []) (r := S1) hx hb hml hown hts (cn_Model_thrown l D ca (qm 0) (qm 1) (qm 2) (qm 3) (qm 4) (qm 5) (qm 6) (qm 7) (qm 8) (qm 9) (qm 10) (qm 11) (qm 12) (qm 13) (qm 14) (qm 15) (qm 16) (qm 17) (qm 18) (qm 19) (qm 20) (qm 21) (qm 22) (qm 23) (qm 24) ((va_up i 0 S1) 0) ((va_up i 0 S1) 1) ((va_up i 0 S1) 2) ((va_up i 0 S1) 3) ((va_up i 0 S1) 4) ((va_up i 0 S1) 5) ((va_up i 0 S1) 6) ((va_up i 0 S1) 7) S1 rfl) kc_Model_thrown kv_Model_thrown tt_820 ⟨by decide, by decide⟩ rfl rfl hP hK [63] rfl 0 rfl rfl rfl rfl hl.1 (Nat.le_of_ble_eq_true rfl) rfl nd_Law_law_1078 ⟨by show _ ≤ 601024; omega, by show _ ≤ 7293034; omega⟩ ?_
    refine lv_iload hx hb nd_Law_law_1081 (lv_at hl 1 rfl) ?_
    refine lv_icmp_eq (tgt := 1088) hx hb nd_Law_law_1083 (by decide) (fun c4 => ?_) (fun c4 => ?_)
    rotate_left
    · exact absurd et c4
    refine lv_iload hx hb nd_Law_law_1088 (lv_at hl 1 rfl) ?_
    refine lv_if_ne (tgt := 1105) hx hb nd_Law_law_1090 (by decide) (fun c5 => ?_) (fun c5 => ?_)
    rotate_left
    · exact absurd c5 (by decide)
    refine lv_goto (tgt := 1452) hx hb nd_Law_law_1105 (by decide) ?_
    refine W.widen (k := 400 + n + 1) (n := 20000 + 6 * n + 6) (by omega) (by omega) ?_
    exact hnext _ _ _ _ _ _ _ _ _ _ _ hRel hP hD hS (lv_sub hl [2, 3, 4, 5, 6] rfl)
set_option maxHeartbeats 8000000 in
set_option maxRecDepth 100000 in
theorem lc_sensor {p : Program} {l : Launch} {e : Env} {s : State} {m : MethodId} {below : List Frame} {meth : Method} {c : Code} {D : va_G} {ca : Nat → ClassId} {b Ls : Nat} {xs : Nat → Int32} (C0 : lw_At p s m meth c b Ls xs) (hL : Ls ≤ 2560) (hlt : l.stackTraces = false) (hev0 : xt_ev s s.heap) (hK : va_K D vwCl (tyG ca) s) {Rel : (Nat → Int32) → (Nat → Int64) → (Nat → Nat → Int32) → (Nat → Nat → Int64) → (Nat → Int32) → (Nat → Nat → Int32) → (Nat → Nat → Int64) → Prop} {qc qm : Nat → Nat} {qo : Nat} {I : Nat → Int32} {J : Nat → Int64} {A : Nat → Nat → Int32} {L : Nat → Nat → Int64} {i : Nat → Int32} {a : Nat → Nat → Int32} {l9 : Nat → Nat → Int64} {o : Nat → Int64} {n : Nat} (hn : n + 5 ≤ Ls) {H : Heap} {locs : List Loc} {ls : Array Slot} (hP : va_P D vwCl (wA qc qm qo ca I J A L i a l9 o) H) (hD : va_D (fun q : Nat => s.heap.size ≤ q) (wA qc qm qo ca I J A L i a l9 o)) (hS : va_S (fun q : Nat => s.heap.size ≤ q) s.heap H locs) (hl : lv_has ls 8 [(4, .int (nI n)), (3, .ref qo), (2, .ref (qm 0)), (1, .ref (qc 0)), (0, .ref b)]) (hst : st_sensor Rel I J A L i a l9 o (xs (n + 1)) (xs (n + 2))) (hnext : ∀ (I : Nat → Int32) (J : Nat → Int64) (A : Nat → Nat → Int32) (L : Nat → Nat → Int64) (i : Nat → Int32) (a : Nat → Nat → Int32) (l9 : Nat → Nat → Int64) (o : Nat → Int64) (H : Heap) (locs : List Loc) (ls : Array Slot), Rel I J A L i a l9 → va_P D vwCl (wA qc qm qo ca I J A L i a l9 o) H → va_D (fun q : Nat => s.heap.size ≤ q) (wA qc qm qo ca I J A L i a l9 o) → va_S (fun q : Nat => s.heap.size ≤ q) s.heap H locs → lv_has ls 8 [(4, .int (nI n)), (3, .ref qo), (2, .ref (qm 0)), (1, .ref (qc 0)), (0, .ref b)] → W p l e room_1 s m #[Value.ref b] below meth c H locs (400 + n + 1) (20000 + 6 * n + 6) (lw_Z below #[Value.ref b] s) (F0 m 1452 ls [])) : W p l e room_1 s m #[Value.ref b] below meth c H locs (400 + n) (20000 + 6 * n) (lw_Z below #[Value.ref b] s) (F0 m 1108 ls []) := by
  obtain ⟨hx, hb, hr, hml, hown, hts0, hX, hbl, hlocks, hgv⟩ := C0
  have hts : ∀ w ∈ TT, w.before #[Value.ref b] s = true := fun w h => hts0 w (List.mem_filter.mp h).1
  have hA : ∀ q : Nat, s.heap.size ≤ q → (fun q : Nat => s.heap.size ≤ q) q := fun _ h => h
  have hbA : ¬ (fun q : Nat => s.heap.size ≤ q) b := Nat.not_le.mpr hbl
  have hown : s.vm.findClass nR_Law = some m.cls := hown
  have hev : xt_ev s H := k_evH hev0 hS
  unfold st_sensor at hst
  rcases hst with ⟨R1, R2, S0, S1, e1, e2, et, ea, hRel⟩ | ⟨S0, S1, e1, e2, et, hRel⟩ | ⟨S0, S1, e1, e2, et, hRel⟩
  ·
    refine lv_aload_n hx hb nd_Law_law_1108 rfl (lv_at hl 3 rfl) ?_
    refine lv_aload_n hx hb nd_Law_law_1109 rfl (lv_at hl 4 rfl) ?_
    refine lv_iload hx hb nd_Law_law_1110 (lv_at hl 0 rfl) ?_
    refine lv_iconst (v := 1) hx hb nd_Law_law_1112 (by decide) ?_
    refine lv_iadd hx hb nd_Law_law_1113 ?_
    refine k_sld (n := n) (j := 1) hx hb hX hbl hbA hS (k_sidx rfl) (by omega) hL nd_Law_law_1114 ?_
    refine lv_aload_n hx hb nd_Law_law_1115 rfl (lv_at hl 4 rfl) ?_
    refine lv_iload hx hb nd_Law_law_1116 (lv_at hl 0 rfl) ?_
    refine lv_iconst (v := 2) hx hb nd_Law_law_1118 (by decide) ?_
    refine lv_iadd hx hb nd_Law_law_1119 ?_
    refine k_sld (n := n) (j := 2) hx hb hX hbl hbA hS (k_sidx rfl) (by omega) hL nd_Law_law_1120 ?_
    refine k_wSWI (wr := k_pick (wA qc qm qo ca I J A L i a l9 o) [1, 2, 3, 4, 5, 6, 7, 8, 9, 10, 11, 12, 13, 14, 15, 16, 17, 18, 19, 20, 21, 22, 23, 24, 25, 26, 27, 28, 29, 30, 31, 32, 33, 34, 35, 36, 37, 38, 39, 40, 41, 42, 43, 44, 45, 46, 47, 48, 49, 50, 51, 52, 53, 54, 55, 56, 57, 61, 62, 63, 64, 65, 66, 67, 68, 69, 70, 71, 72, 73, 74, 75, 76, 77, 78, 79, 80, 81, 82, 83, 84, 85, 86, 87, 88]) (w2 := wA qc qm qo ca I J (va_up (va_up A 33 R1) 34 R2) L i a l9 o) (As := [.ref (qc 0), .int (xs (n + 1)), .int (xs (n + 2))]) (rest := []) (r := 0) hx hb hml hown hts (cn_Law_sensor l D ca (qc 0) (qc 1) (qc 19) (qc 34) (qc 47) (qc 48) (qc 58) (qc 59) (qc 60) (qc 61) (qc 62) (I 0) (I 15) (A 33) (A 34) (xs (n + 1)) (xs (n + 2)) (0 : Int32) R1 R2 e1 _) kc_Law_sensor ks_Law_sensor tt_604 ⟨by decide, by decide⟩ rfl rfl hP hK hD hS hA [0, 58, 59, 60] [1, 2, 3, 4, 5, 6, 7, 8, 9, 10, 11, 12, 13, 14, 15, 16, 17, 18, 19, 20, 21, 22, 23, 24, 25, 26, 27, 28, 29, 30, 31, 32, 33, 34, 35, 36, 37, 38, 39, 40, 41, 42, 43, 44, 45, 46, 47, 48, 49, 50, 51, 52, 53, 54, 55, 56, 57, 61, 62, 63, 64, 65, 66, 67, 68, 69, 70, 71, 72, 73, 74, 75, 76, 77, 78, 79, 80, 81, 82, 83, 84, 85, 86, 87, 88] [85, 0, 1, 2, 3, 4, 5, 6, 7, 8, 9, 10, 11, 12, 13, 14, 15, 16, 17, 18, 19, 20, 21, 22, 23, 24, 25, 26, 27, 28, 29, 30, 31, 32, 33, 34, 35, 36, 37, 38, 39, 40, 41, 42, 43, 44, 45, 46, 47, 48, 49, 50, 51, 52, 53, 54, 55, 56, 86, 87, 88, 57, 58, 59, 60, 61, 62, 63, 64, 65, 66, 67, 68, 69, 70, 71, 72, 73, 74, 75, 76, 77, 78, 79, 80, 81, 82, 83, 84] rfl (by decide) rfl (by decide) (by decide) rfl (by decide) rfl hl.1 (Nat.le_of_ble_eq_true rfl) rfl nd_Law_law_1121 ⟨by show _ ≤ 601024; omega, by show _ ≤ 7293034; omega⟩ (fun H locs hP hD hS => ?_)
    refine W.widen (k := 400 + n) (n := 20000 + 6 * n) (by omega) (by omega) ?_
    refine lv_istore (lv' := [(5, .int 0), (4, .int (nI n)), (3, .ref qo), (2, .ref (qm 0)), (1, .ref (qc 0)), (0, .ref b)]) hx hb nd_Law_law_1124 hl (by decide) rfl (fun ls hl => ?_)
    refine lv_aload_n hx hb nd_Law_law_1126 rfl (lv_at hl 3 rfl) ?_
    refine lv_aload_n hx hb nd_Law_law_1127 rfl (lv_at hl 5 rfl) ?_
    refine lv_iload hx hb nd_Law_law_1128 (lv_at hl 1 rfl) ?_
    refine lv_iconst (v := 1) hx hb nd_Law_law_1130 (by decide) ?_
    refine lv_iadd hx hb nd_Law_law_1131 ?_
    refine k_sld (n := n) (j := 1) hx hb hX hbl hbA hS (k_sidx rfl) (by omega) hL nd_Law_law_1132 ?_
    refine lv_aload_n hx hb nd_Law_law_1133 rfl (lv_at hl 5 rfl) ?_
    refine lv_iload hx hb nd_Law_law_1134 (lv_at hl 1 rfl) ?_
    refine lv_iconst (v := 2) hx hb nd_Law_law_1136 (by decide) ?_
    refine lv_iadd hx hb nd_Law_law_1137 ?_
    refine k_sld (n := n) (j := 2) hx hb hX hbl hbA hS (k_sidx rfl) (by omega) hL nd_Law_law_1138 ?_
    refine k_wVV (wr := k_pick (wA qc qm qo ca I J (va_up (va_up A 33 R1) 34 R2) L i a l9 o) [0, 1, 2, 3, 4, 5, 6, 7, 8, 9, 10, 11, 12, 13, 14, 15, 16, 17, 18, 19, 20, 21, 22, 23, 24, 25, 26, 27, 28, 29, 30, 31, 32, 33, 34, 35, 36, 37, 38, 39, 40, 41, 42, 43, 44, 45, 46, 47, 48, 49, 50, 51, 52, 53, 54, 55, 56, 57, 58, 59, 60, 61, 62, 64, 65, 66, 67, 68, 69, 70, 71, 72, 73, 74, 75, 76, 77, 78, 79, 80, 81, 82, 83, 84, 86, 87, 88]) (w2 := wA qc qm qo ca I J (va_up (va_up A 33 R1) 34 R2) L (va_up i 0 S0) (va_up a 17 S1) l9 o) (As := [.int (xs (n + 1)), .int (xs (n + 2))]) (rest := []) hx hb hml hown hts (cn_Model_sensor l D ca (qm 0) (qm 1) (qm 2) (qm 3) (qm 4) (qm 5) (qm 6) (qm 7) (qm 8) (qm 9) (qm 10) (qm 11) (qm 12) (qm 13) (qm 14) (qm 15) (qm 16) (qm 17) (qm 18) (qm 19) (qm 20) (qm 21) (qm 22) (qm 23) (qm 24) (i 0) (i 1) (i 2) (i 3) (i 4) (i 5) (i 6) (i 7) (a 17) (xs (n + 1)) (xs (n + 2)) S0 S1 e2 _) kc_Model_sensor kv_Model_sensor tt_968 ⟨by decide, by decide⟩ rfl rfl hP hK hD hS hA [63, 85] [0, 1, 2, 3, 4, 5, 6, 7, 8, 9, 10, 11, 12, 13, 14, 15, 16, 17, 18, 19, 20, 21, 22, 23, 24, 25, 26, 27, 28, 29, 30, 31, 32, 33, 34, 35, 36, 37, 38, 39, 40, 41, 42, 43, 44, 45, 46, 47, 48, 49, 50, 51, 52, 53, 54, 55, 56, 57, 58, 59, 60, 61, 62, 64, 65, 66, 67, 68, 69, 70, 71, 72, 73, 74, 75, 76, 77, 78, 79, 80, 81, 82, 83, 84, 86, 87, 88] [0, 1, 2, 3, 4, 5, 6, 7, 8, 9, 10, 11, 12, 13, 14, 15, 16, 17, 18, 19, 20, 21, 22, 23, 24, 25, 26, 27, 28, 29, 30, 31, 32, 33, 34, 35, 36, 37, 38, 39, 40, 41, 42, 43, 44, 45, 46, 47, 48, 49, 50, 51, 52, 53, 54, 55, 56, 57, 58, 59, 60, 61, 62, 87, 63, 64, 65, 66, 67, 68, 69, 70, 71, 72, 73, 74, 75, 76, 77, 78, 79, 80, 81, 82, 83, 88, 84, 85, 86] rfl (by decide) rfl (by decide) (by decide) rfl (by decide) 0 rfl rfl rfl rfl hl.1 (Nat.le_of_ble_eq_true rfl) rfl nd_Law_law_1139 ⟨by show _ ≤ 601024; omega, by show _ ≤ 7293034; omega⟩ (fun H locs hP hD hS => ?_)
    refine lv_aload_n hx hb nd_Law_law_1142 rfl (lv_at hl 3 rfl) ?_
    refine k_rVI (As := []) (rest := []) (r := S0) hx hb hml hown hts (cn_Model_thrown l D ca (qm 0) (qm 1) (qm 2) (qm 3) (qm 4) (qm 5) (qm 6) (qm 7) (qm 8) (qm 9) (qm 10) (qm 11) (qm 12) (qm 13) (qm 14) (qm 15) (qm 16) (qm 17) (qm 18) (qm 19) (qm 20) (qm 21) (qm 22) (qm 23) (qm 24) ((va_up i 0 S0) 0) ((va_up i 0 S0) 1) ((va_up i 0 S0) 2) ((va_up i 0 S0) 3) ((va_up i 0 S0) 4) ((va_up i 0 S0) 5) ((va_up i 0 S0) 6) ((va_up i 0 S0) 7) S0 rfl) kc_Model_thrown kv_Model_thrown tt_820 ⟨by decide, by decide⟩ rfl rfl hP hK [63] rfl 0 rfl rfl rfl rfl hl.1 (Nat.le_of_ble_eq_true rfl) rfl nd_Law_law_1143 ⟨by show _ ≤ 601024; omega, by show _ ≤ 7293034; omega⟩ ?_
    refine lv_iload hx hb nd_Law_law_1146 (lv_at hl 0 rfl) ?_
    refine lv_icmp_eq (tgt := 1153) hx hb nd_Law_law_1148 (by decide) (fun c1 => ?_) (fun c1 => ?_)
    rotate_left
    · exact absurd et c1
    refine lv_goto (tgt := 1452) hx hb nd_Law_law_1153 (by decide) ?_
    refine W.widen (k := 400 + n + 1) (n := 20000 + 6 * n + 6) (by omega) (by omega) ?_
    exact hnext _ _ _ _ _ _ _ _ _ _ _ hRel hP hD hS (lv_sub hl [1, 2, 3, 4, 5] rfl)
  ·
    refine lv_aload_n hx hb nd_Law_law_1108 rfl (lv_at hl 3 rfl) ?_
    refine lv_aload_n hx hb nd_Law_law_1109 rfl (lv_at hl 4 rfl) ?_
    refine lv_iload hx hb nd_Law_law_1110 (lv_at hl 0 rfl) ?_
    refine lv_iconst (v := 1) hx hb nd_Law_law_1112 (by decide) ?_
    refine lv_iadd hx hb nd_Law_law_1113 ?_
    refine k_sld (n := n) (j := 1) hx hb hX hbl hbA hS (k_sidx rfl) (by omega) hL nd_Law_law_1114 ?_
    refine lv_aload_n hx hb nd_Law_law_1115 rfl (lv_at hl 4 rfl) ?_
    refine lv_iload hx hb nd_Law_law_1116 (lv_at hl 0 rfl) ?_
    refine lv_iconst (v := 2) hx hb nd_Law_law_1118 (by decide) ?_
    refine lv_iadd hx hb nd_Law_law_1119 ?_
    refine k_sld (n := n) (j := 2) hx hb hX hbl hbA hS (k_sidx rfl) (by omega) hL nd_Law_law_1120 ?_
    refine k_wSWX (wr := k_pick (wA qc qm qo ca I J A L i a l9 o) [1, 2, 3, 4, 5, 6, 7, 8, 9, 10, 11, 12, 13, 14, 15, 16, 17, 18, 19, 20, 21, 22, 23, 24, 25, 26, 27, 28, 29, 30, 31, 32, 33, 34, 35, 36, 37, 38, 39, 40, 41, 42, 43, 44, 45, 46, 47, 48, 49, 50, 51, 52, 53, 54, 55, 56, 57, 61, 62, 63, 64, 65, 66, 67, 68, 69, 70, 71, 72, 73, 74, 75, 76, 77, 78, 79, 80, 81, 82, 83, 84, 85, 86, 87, 88]) (w2 := wA qc qm qo ca I J A L i a l9 o) (As := [.ref (qc 0), .int (xs (n + 1)), .int (xs (n + 2))]) (rest := []) (r := 1) hx hb hml hown hts (hx_Law_sensor_1 l hlt D ca (qc 0) (qc 1) (qc 19) (qc 34) (qc 47) (qc 48) (qc 58) (qc 59) (qc 60) (qc 61) (qc 62) (I 0) (I 15) (A 33) (A 34) (xs (n + 1)) (xs (n + 2)) e1 _) kc_Law_sensor ks_Law_sensor tt_604 ⟨by decide, by decide⟩ rfl rfl hP hK hD hS hA hev [0, 58, 59, 60] [1, 2, 3, 4, 5, 6, 7, 8, 9, 10, 11, 12, 13, 14, 15, 16, 17, 18, 19, 20, 21, 22, 23, 24, 25, 26, 27, 28, 29, 30, 31, 32, 33, 34, 35, 36, 37, 38, 39, 40, 41, 42, 43, 44, 45, 46, 47, 48, 49, 50, 51, 52, 53, 54, 55, 56, 57, 61, 62, 63, 64, 65, 66, 67, 68, 69, 70, 71, 72, 73, 74, 75, 76, 77, 78, 79, 80, 81, 82, 83, 84, 85, 86, 87, 88] [85, 0, 1, 2, 3, 4, 5, 6, 7, 8, 9, 10, 11, 12, 13, 14, 15, 16, 17, 18, 19, 20, 21, 22, 23, 24, 25, 26, 27, 28, 29, 30, 31, 32, 33, 34, 35, 36, 37, 38, 39, 40, 41, 42, 43, 44, 45, 46, 47, 48, 49, 50, 51, 52, 53, 54, 55, 56, 86, 87, 88, 57, 58, 59, 60, 61, 62, 63, 64, 65, 66, 67, 68, 69, 70, 71, 72, 73, 74, 75, 76, 77, 78, 79, 80, 81, 82, 83, 84] rfl (by decide) rfl (by decide) (by decide) rfl (by decide) rfl hl.1 (Nat.le_of_ble_eq_true rfl) rfl nd_Law_law_1121 ⟨by show _ ≤ 601024; omega, by show _ ≤ 7293034; omega⟩ (fun H locs hP hD hS => ?_)
    refine W.widen (k := 400 + n + 1) (n := 20000 + 6 * n + 6) (by omega) (by omega) ?_
    refine lv_istore (lv' := [(5, .int 1), (4, .int (nI n)), (3, .ref qo), (2, .ref (qm 0)), (1, .ref (qc 0)), (0, .ref b)]) hx hb nd_Law_law_1124 hl (by decide) rfl (fun ls hl => ?_)
    refine lv_aload_n hx hb nd_Law_law_1126 rfl (lv_at hl 3 rfl) ?_
    refine lv_aload_n hx hb nd_Law_law_1127 rfl (lv_at hl 5 rfl) ?_
    refine lv_iload hx hb nd_Law_law_1128 (lv_at hl 1 rfl) ?_
    refine lv_iconst (v := 1) hx hb nd_Law_law_1130 (by decide) ?_
    refine lv_iadd hx hb nd_Law_law_1131 ?_
    refine k_sld (n := n) (j := 1) hx hb hX hbl hbA hS (k_sidx rfl) (by omega) hL nd_Law_law_1132 ?_
    refine lv_aload_n hx hb nd_Law_law_1133 rfl (lv_at hl 5 rfl) ?_
    refine lv_iload hx hb nd_Law_law_1134 (lv_at hl 1 rfl) ?_
    refine lv_iconst (v := 2) hx hb nd_Law_law_1136 (by decide) ?_
    refine lv_iadd hx hb nd_Law_law_1137 ?_
    refine k_sld (n := n) (j := 2) hx hb hX hbl hbA hS (k_sidx rfl) (by omega) hL nd_Law_law_1138 ?_
    refine k_wVV (wr := k_pick (wA qc qm qo ca I J A L i a l9 o) [0, 1, 2, 3, 4, 5, 6, 7, 8, 9, 10, 11, 12, 13, 14, 15, 16, 17, 18, 19, 20, 21, 22, 23, 24, 25, 26, 27, 28, 29, 30, 31, 32, 33, 34, 35, 36, 37, 38, 39, 40, 41, 42, 43, 44, 45, 46, 47, 48, 49, 50, 51, 52, 53, 54, 55, 56, 57, 58, 59, 60, 61, 62, 64, 65, 66, 67, 68, 69, 70, 71, 72, 73, 74, 75, 76, 77, 78, 79, 80, 81, 82, 83, 84, 86, 87, 88]) (w2 := wA qc qm qo ca I J A L (va_up i 0 S0) (va_up a 17 S1) l9 o) (As := [.int (xs (n + 1)), .int (xs (n + 2))]) (rest := []) hx hb hml hown hts (cn_Model_sensor l D ca (qm 0) (qm 1) (qm 2) (qm 3) (qm 4) (qm 5) (qm 6) (qm 7) (qm 8) (qm 9) (qm 10) (qm 11) (qm 12) (qm 13) (qm 14) (qm 15) (qm 16) (qm 17) (qm 18) (qm 19) (qm 20) (qm 21) (qm 22) (qm 23) (qm 24) (i 0) (i 1) (i 2) (i 3) (i 4) (i 5) (i 6) (i 7) (a 17) (xs (n + 1)) (xs (n + 2)) S0 S1 e2 _) kc_Model_sensor kv_Model_sensor tt_968 ⟨by decide, by decide⟩ rfl rfl hP hK hD hS hA [63, 85] [0, 1, 2, 3, 4, 5, 6, 7, 8, 9, 10, 11, 12, 13, 14, 15, 16, 17, 18, 19, 20, 21, 22, 23, 24, 25, 26, 27, 28, 29, 30, 31, 32, 33, 34, 35, 36, 37, 38, 39, 40, 41, 42, 43, 44, 45, 46, 47, 48, 49, 50, 51, 52, 53, 54, 55, 56, 57, 58, 59, 60, 61, 62, 64, 65, 66, 67, 68, 69, 70, 71, 72, 73, 74, 75, 76, 77, 78, 79, 80, 81, 82, 83, 84, 86, 87, 88] [0, 1, 2, 3, 4, 5, 6, 7, 8, 9, 10, 11, 12, 13, 14, 15, 16, 17, 18, 19, 20, 21, 22, 23, 24, 25, 26, 27, 28, 29, 30, 31, 32, 33, 34, 35, 36, 37, 38, 39, 40, 41, 42, 43, 44, 45, 46, 47, 48, 49, 50, 51, 52, 53, 54, 55, 56, 57, 58, 59, 60, 61, 62, 87, 63, 64, 65, 66, 67, 68, 69, 70, 71, 72, 73, 74, 75, 76, 77, 78, 79, 80, 81, 82, 83, 88, 84, 85, 86] rfl (by decide) rfl (by decide) (by decide) rfl (by decide) 0 rfl rfl rfl rfl hl.1 (Nat.le_of_ble_eq_true rfl) rfl nd_Law_law_1139 ⟨by show _ ≤ 601024; omega, by show _ ≤ 7293034; omega⟩ (fun H locs hP hD hS => ?_)
    refine lv_aload_n hx hb nd_Law_law_1142 rfl (lv_at hl 3 rfl) ?_
    refine k_rVI (As := []) (rest := []) (r := S0) hx hb hml hown hts (cn_Model_thrown l D ca (qm 0) (qm 1) (qm 2) (qm 3) (qm 4) (qm 5) (qm 6) (qm 7) (qm 8) (qm 9) (qm 10) (qm 11) (qm 12) (qm 13) (qm 14) (qm 15) (qm 16) (qm 17) (qm 18) (qm 19) (qm 20) (qm 21) (qm 22) (qm 23) (qm 24) ((va_up i 0 S0) 0) ((va_up i 0 S0) 1) ((va_up i 0 S0) 2) ((va_up i 0 S0) 3) ((va_up i 0 S0) 4) ((va_up i 0 S0) 5) ((va_up i 0 S0) 6) ((va_up i 0 S0) 7) S0 rfl) kc_Model_thrown kv_Model_thrown tt_820 ⟨by decide, by decide⟩ rfl rfl hP hK [63] rfl 0 rfl rfl rfl rfl hl.1 (Nat.le_of_ble_eq_true rfl) rfl nd_Law_law_1143 ⟨by show _ ≤ 601024; omega, by show _ ≤ 7293034; omega⟩ ?_
    refine lv_iload hx hb nd_Law_law_1146 (lv_at hl 0 rfl) ?_
    refine lv_icmp_eq (tgt := 1153) hx hb nd_Law_law_1148 (by decide) (fun c2 => ?_) (fun c2 => ?_)
    rotate_left
    · exact absurd et c2
    refine lv_goto (tgt := 1452) hx hb nd_Law_law_1153 (by decide) ?_
    refine W.widen (k := 400 + n + 1) (n := 20000 + 6 * n + 6) (by omega) (by omega) ?_
    exact hnext _ _ _ _ _ _ _ _ _ _ _ hRel hP hD hS (lv_sub hl [1, 2, 3, 4, 5] rfl)
  ·
    refine lv_aload_n hx hb nd_Law_law_1108 rfl (lv_at hl 3 rfl) ?_
    refine lv_aload_n hx hb nd_Law_law_1109 rfl (lv_at hl 4 rfl) ?_
    refine lv_iload hx hb nd_Law_law_1110 (lv_at hl 0 rfl) ?_
    refine lv_iconst (v := 1) hx hb nd_Law_law_1112 (by decide) ?_
    refine lv_iadd hx hb nd_Law_law_1113 ?_
    refine k_sld (n := n) (j := 1) hx hb hX hbl hbA hS (k_sidx rfl) (by omega) hL nd_Law_law_1114 ?_
    refine lv_aload_n hx hb nd_Law_law_1115 rfl (lv_at hl 4 rfl) ?_
    refine lv_iload hx hb nd_Law_law_1116 (lv_at hl 0 rfl) ?_
    refine lv_iconst (v := 2) hx hb nd_Law_law_1118 (by decide) ?_
    refine lv_iadd hx hb nd_Law_law_1119 ?_
    refine k_sld (n := n) (j := 2) hx hb hX hbl hbA hS (k_sidx rfl) (by omega) hL nd_Law_law_1120 ?_
    refine k_wSWX (wr := k_pick (wA qc qm qo ca I J A L i a l9 o) [1, 2, 3, 4, 5, 6, 7, 8, 9, 10, 11, 12, 13, 14, 15, 16, 17, 18, 19, 20, 21, 22, 23, 24, 25, 26, 27, 28, 29, 30, 31, 32, 33, 34, 35, 36, 37, 38, 39, 40, 41, 42, 43, 44, 45, 46, 47, 48, 49, 50, 51, 52, 53, 54, 55, 56, 57, 61, 62, 63, 64, 65, 66, 67, 68, 69, 70, 71, 72, 73, 74, 75, 76, 77, 78, 79, 80, 81, 82, 83, 84, 85, 86, 87, 88]) (w2 := wA qc qm qo ca I J A L i a l9 o) (As := [.ref (qc 0), .int (xs (n + 1)), .int (xs (n + 2))]) (rest := []) (r := 2) hx hb hml hown hts (hx_Law_sensor_3 l hlt D ca (qc 0) (qc 1) (qc 19) (qc 34) (qc 47) (qc 48) (qc 58) (qc 59) (qc 60) (qc 61) (qc 62) (I 0) (I 15) (A 33) (A 34) (xs (n + 1)) (xs (n + 2)) e1 _) kc_Law_sensor ks_Law_sensor tt_604 ⟨by decide, by decide⟩ rfl rfl hP hK hD hS hA hev [0, 58, 59, 60] [1, 2, 3, 4, 5, 6, 7, 8, 9, 10, 11, 12, 13, 14, 15, 16, 17, 18, 19, 20, 21, 22, 23, 24, 25, 26, 27, 28, 29, 30, 31, 32, 33, 34, 35, 36, 37, 38, 39, 40, 41, 42, 43, 44, 45, 46, 47, 48, 49, 50, 51, 52, 53, 54, 55, 56, 57, 61, 62, 63, 64, 65, 66, 67, 68, 69, 70, 71, 72, 73, 74, 75, 76, 77, 78, 79, 80, 81, 82, 83, 84, 85, 86, 87, 88] [85, 0, 1, 2, 3, 4, 5, 6, 7, 8, 9, 10, 11, 12, 13, 14, 15, 16, 17, 18, 19, 20, 21, 22, 23, 24, 25, 26, 27, 28, 29, 30, 31, 32, 33, 34, 35, 36, 37, 38, 39, 40, 41, 42, 43, 44, 45, 46, 47, 48, 49, 50, 51, 52, 53, 54, 55, 56, 86, 87, 88, 57, 58, 59, 60, 61, 62, 63, 64, 65, 66, 67, 68, 69, 70, 71, 72, 73, 74, 75, 76, 77, 78, 79, 80, 81, 82, 83, 84] rfl (by decide) rfl (by decide) (by decide) rfl (by decide) rfl hl.1 (Nat.le_of_ble_eq_true rfl) rfl nd_Law_law_1121 ⟨by show _ ≤ 601024; omega, by show _ ≤ 7293034; omega⟩ (fun H locs hP hD hS => ?_)
    refine W.widen (k := 400 + n + 1) (n := 20000 + 6 * n + 6) (by omega) (by omega) ?_
    refine lv_istore (lv' := [(5, .int 2), (4, .int (nI n)), (3, .ref qo), (2, .ref (qm 0)), (1, .ref (qc 0)), (0, .ref b)]) hx hb nd_Law_law_1124 hl (by decide) rfl (fun ls hl => ?_)
    refine lv_aload_n hx hb nd_Law_law_1126 rfl (lv_at hl 3 rfl) ?_
    refine lv_aload_n hx hb nd_Law_law_1127 rfl (lv_at hl 5 rfl) ?_
    refine lv_iload hx hb nd_Law_law_1128 (lv_at hl 1 rfl) ?_
    refine lv_iconst (v := 1) hx hb nd_Law_law_1130 (by decide) ?_
    refine lv_iadd hx hb nd_Law_law_1131 ?_
    refine k_sld (n := n) (j := 1) hx hb hX hbl hbA hS (k_sidx rfl) (by omega) hL nd_Law_law_1132 ?_
    refine lv_aload_n hx hb nd_Law_law_1133 rfl (lv_at hl 5 rfl) ?_
    refine lv_iload hx hb nd_Law_law_1134 (lv_at hl 1 rfl) ?_
    refine lv_iconst (v := 2) hx hb nd_Law_law_1136 (by decide) ?_
    refine lv_iadd hx hb nd_Law_law_1137 ?_
    refine k_sld (n := n) (j := 2) hx hb hX hbl hbA hS (k_sidx rfl) (by omega) hL nd_Law_law_1138 ?_
    refine k_wVV (wr := k_pick (wA qc qm qo ca I J A L i a l9 o) [0, 1, 2, 3, 4, 5, 6, 7, 8, 9, 10, 11, 12, 13, 14, 15, 16, 17, 18, 19, 20, 21, 22, 23, 24, 25, 26, 27, 28, 29, 30, 31, 32, 33, 34, 35, 36, 37, 38, 39, 40, 41, 42, 43, 44, 45, 46, 47, 48, 49, 50, 51, 52, 53, 54, 55, 56, 57, 58, 59, 60, 61, 62, 64, 65, 66, 67, 68, 69, 70, 71, 72, 73, 74, 75, 76, 77, 78, 79, 80, 81, 82, 83, 84, 86, 87, 88]) (w2 := wA qc qm qo ca I J A L (va_up i 0 S0) (va_up a 17 S1) l9 o) (As := [.int (xs (n + 1)), .int (xs (n + 2))]) (rest := []) hx hb hml hown hts (cn_Model_sensor l D ca (qm 0) (qm 1) (qm 2) (qm 3) (qm 4) (qm 5) (qm 6) (qm 7) (qm 8) (qm 9) (qm 10) (qm 11) (qm 12) (qm 13) (qm 14) (qm 15) (qm 16) (qm 17) (qm 18) (qm 19) (qm 20) (qm 21) (qm 22) (qm 23) (qm 24) (i 0) (i 1) (i 2) (i 3) (i 4) (i 5) (i 6) (i 7) (a 17) (xs (n + 1)) (xs (n + 2)) S0 S1 e2 _) kc_Model_sensor kv_Model_sensor tt_968 ⟨by decide, by decide⟩ rfl rfl hP hK hD hS hA [63, 85] [0, 1, 2, 3, 4, 5, 6, 7, 8, 9, 10, 11, 12, 13, 14, 15, 16, 17, 18, 19, 20, 21, 22, 23, 24, 25, 26, 27, 28, 29, 30, 31, 32, 33, 34, 35, 36, 37, 38, 39, 40, 41, 42, 43, 44, 45, 46, 47, 48, 49, 50, 51, 52, 53, 54, 55, 56, 57, 58, 59, 60, 61, 62, 64, 65, 66, 67, 68, 69, 70, 71, 72, 73, 74, 75, 76, 77, 78, 79, 80, 81, 82, 83, 84, 86, 87, 88] [0, 1, 2, 3, 4, 5, 6, 7, 8, 9, 10, 11, 12, 13, 14, 15, 16, 17, 18, 19, 20, 21, 22, 23, 24, 25, 26, 27, 28, 29, 30, 31, 32, 33, 34, 35, 36, 37, 38, 39, 40, 41, 42, 43, 44, 45, 46, 47, 48, 49, 50, 51, 52, 53, 54, 55, 56, 57, 58, 59, 60, 61, 62, 87, 63, 64, 65, 66, 67, 68, 69, 70, 71, 72, 73, 74, 75, 76, 77, 78, 79, 80, 81, 82, 83, 88, 84, 85, 86] rfl (by decide) rfl (by decide) (by decide) rfl (by decide) 0 rfl rfl rfl rfl hl.1 (Nat.le_of_ble_eq_true rfl) rfl nd_Law_law_1139 ⟨by show _ ≤ 601024; omega, by show _ ≤ 7293034; omega⟩ (fun H locs hP hD hS => ?_)
    refine lv_aload_n hx hb nd_Law_law_1142 rfl (lv_at hl 3 rfl) ?_
    refine k_rVI (As := []) (rest := []) (r := S0) hx hb hml hown hts (cn_Model_thrown l D ca (qm 0) (qm 1) (qm 2) (qm 3) (qm 4) (qm 5) (qm 6) (qm 7) (qm 8) (qm 9) (qm 10) (qm 11) (qm 12) (qm 13) (qm 14) (qm 15) (qm 16) (qm 17) (qm 18) (qm 19) (qm 20) (qm 21) (qm 22) (qm 23) (qm 24) ((va_up i 0 S0) 0) ((va_up i 0 S0) 1) ((va_up i 0 S0) 2) ((va_up i 0 S0) 3) ((va_up i 0 S0) 4) ((va_up i 0 S0) 5) ((va_up i 0 S0) 6) ((va_up i 0 S0) 7) S0 rfl) kc_Model_thrown kv_Model_thrown tt_820 ⟨by decide, by decide⟩ rfl rfl hP hK [63] rfl 0 rfl rfl rfl rfl hl.1 (Nat.le_of_ble_eq_true rfl) rfl nd_Law_law_1143 ⟨by show _ ≤ 601024; omega, by show _ ≤ 7293034; omega⟩ ?_
    refine lv_iload hx hb nd_Law_law_1146 (lv_at hl 0 rfl) ?_
    refine lv_icmp_eq (tgt := 1153) hx hb nd_Law_law_1148 (by decide) (fun c3 => ?_) (fun c3 => ?_)
    rotate_left
    · exact absurd et c3
    refine lv_goto (tgt := 1452) hx hb nd_Law_law_1153 (by decide) ?_
    refine W.widen (k := 400 + n + 1) (n := 20000 + 6 * n + 6) (by omega) (by omega) ?_
    exact hnext _ _ _ _ _ _ _ _ _ _ _ hRel hP hD hS (lv_sub hl [1, 2, 3, 4, 5] rfl)
set_option maxHeartbeats 8000000 in
set_option maxRecDepth 100000 in
theorem lc_check {p : Program} {l : Launch} {e : Env} {s : State} {m : MethodId} {below : List Frame} {meth : Method} {c : Code} {D : va_G} {ca : Nat → ClassId} {b Ls : Nat} {xs : Nat → Int32} (C0 : lw_At p s m meth c b Ls xs) (hL : Ls ≤ 2560) (hlt : l.stackTraces = false) (hev0 : xt_ev s s.heap) (hK : va_K D vwCl (tyG ca) s) {Rel : (Nat → Int32) → (Nat → Int64) → (Nat → Nat → Int32) → (Nat → Nat → Int64) → (Nat → Int32) → (Nat → Nat → Int32) → (Nat → Nat → Int64) → Prop} {qc qm : Nat → Nat} {qo : Nat} {I : Nat → Int32} {J : Nat → Int64} {A : Nat → Nat → Int32} {L : Nat → Nat → Int64} {i : Nat → Int32} {a : Nat → Nat → Int32} {l9 : Nat → Nat → Int64} {o : Nat → Int64} {n : Nat} (hn : n + 5 ≤ Ls) {H : Heap} {locs : List Loc} {ls : Array Slot} (hP : va_P D vwCl (wA qc qm qo ca I J A L i a l9 o) H) (hD : va_D (fun q : Nat => s.heap.size ≤ q) (wA qc qm qo ca I J A L i a l9 o)) (hS : va_S (fun q : Nat => s.heap.size ≤ q) s.heap H locs) (hl : lv_has ls 8 [(4, .int (nI n)), (3, .ref qo), (2, .ref (qm 0)), (1, .ref (qc 0)), (0, .ref b)]) (hst : st_check Rel I J A L i a l9 o (xs (n + 1)) (xs (n + 2))) (hnext : ∀ (I : Nat → Int32) (J : Nat → Int64) (A : Nat → Nat → Int32) (L : Nat → Nat → Int64) (i : Nat → Int32) (a : Nat → Nat → Int32) (l9 : Nat → Nat → Int64) (o : Nat → Int64) (H : Heap) (locs : List Loc) (ls : Array Slot), Rel I J A L i a l9 → va_P D vwCl (wA qc qm qo ca I J A L i a l9 o) H → va_D (fun q : Nat => s.heap.size ≤ q) (wA qc qm qo ca I J A L i a l9 o) → va_S (fun q : Nat => s.heap.size ≤ q) s.heap H locs → lv_has ls 8 [(4, .int (nI n)), (3, .ref qo), (2, .ref (qm 0)), (1, .ref (qc 0)), (0, .ref b)] → W p l e room_1 s m #[Value.ref b] below meth c H locs (400 + n + 1) (20000 + 6 * n + 6) (lw_Z below #[Value.ref b] s) (F0 m 1452 ls [])) : W p l e room_1 s m #[Value.ref b] below meth c H locs (400 + n) (20000 + 6 * n) (lw_Z below #[Value.ref b] s) (F0 m 1156 ls []) := by
  obtain ⟨hx, hb, hr, hml, hown, hts0, hX, hbl, hlocks, hgv⟩ := C0
  have hts : ∀ w ∈ TT, w.before #[Value.ref b] s = true := fun w h => hts0 w (List.mem_filter.mp h).1
  have hA : ∀ q : Nat, s.heap.size ≤ q → (fun q : Nat => s.heap.size ≤ q) q := fun _ h => h
  have hbA : ¬ (fun q : Nat => s.heap.size ≤ q) b := Nat.not_le.mpr hbl
  have hown : s.vm.findClass nR_Law = some m.cls := hown
  have hev : xt_ev s H := k_evH hev0 hS
  unfold st_check at hst
  rcases hst with ⟨R1, R2, R3, S0, S1, S2, e1, e2, et, ea, hRel⟩ | ⟨S0, S1, S2, e1, e2, et, hRel⟩ | ⟨S0, S1, S2, e1, e2, et, hRel⟩ | ⟨S0, S1, S2, e1, e2, et, hRel⟩
  ·
    refine lv_aload_n hx hb nd_Law_law_1156 rfl (lv_at hl 3 rfl) ?_
    refine lv_aload_n hx hb nd_Law_law_1157 rfl (lv_at hl 4 rfl) ?_
    refine lv_iload hx hb nd_Law_law_1158 (lv_at hl 0 rfl) ?_
    refine lv_iconst (v := 1) hx hb nd_Law_law_1160 (by decide) ?_
    refine lv_iadd hx hb nd_Law_law_1161 ?_
    refine k_sld (n := n) (j := 1) hx hb hX hbl hbA hS (k_sidx rfl) (by omega) hL nd_Law_law_1162 ?_
    refine lv_aload_n hx hb nd_Law_law_1163 rfl (lv_at hl 4 rfl) ?_
    refine lv_iload hx hb nd_Law_law_1164 (lv_at hl 0 rfl) ?_
    refine lv_iconst (v := 2) hx hb nd_Law_law_1166 (by decide) ?_
    refine lv_iadd hx hb nd_Law_law_1167 ?_
    refine k_sld (n := n) (j := 2) hx hb hX hbl hbA hS (k_sidx rfl) (by omega) hL nd_Law_law_1168 ?_
    refine k_wSWI (wr := k_pick (wA qc qm qo ca I J A L i a l9 o) [1, 2, 3, 4, 5, 6, 7, 8, 9, 10, 11, 12, 13, 14, 15, 16, 17, 18, 19, 20, 21, 22, 23, 24, 25, 26, 27, 28, 29, 30, 31, 32, 33, 34, 35, 36, 37, 38, 39, 40, 41, 42, 43, 44, 45, 46, 47, 48, 49, 50, 51, 52, 53, 54, 55, 56, 57, 59, 63, 64, 65, 66, 67, 68, 69, 70, 71, 72, 73, 74, 75, 76, 77, 78, 79, 80, 81, 82, 83, 84, 85, 86, 87, 88]) (w2 := wA qc qm qo ca (va_up I 15 R1) J (va_up (va_up A 35 R2) 36 R3) L i a l9 o) (As := [.ref (qc 0), .int (xs (n + 1)), .int (xs (n + 2))]) (rest := []) (r := 0) hx hb hml hown hts (cn_Law_check l D ca (qc 0) (qc 1) (qc 19) (qc 34) (qc 47) (qc 48) (qc 58) (qc 59) (qc 60) (qc 61) (qc 62) (I 0) (I 15) (A 34) (A 36) (A 35) (xs (n + 1)) (xs (n + 2)) (0 : Int32) R1 R2 R3 e1 _) kc_Law_check ks_Law_check tt_616 ⟨by decide, by decide⟩ rfl rfl hP hK hD hS hA [0, 58, 60, 62, 61] [1, 2, 3, 4, 5, 6, 7, 8, 9, 10, 11, 12, 13, 14, 15, 16, 17, 18, 19, 20, 21, 22, 23, 24, 25, 26, 27, 28, 29, 30, 31, 32, 33, 34, 35, 36, 37, 38, 39, 40, 41, 42, 43, 44, 45, 46, 47, 48, 49, 50, 51, 52, 53, 54, 55, 56, 57, 59, 63, 64, 65, 66, 67, 68, 69, 70, 71, 72, 73, 74, 75, 76, 77, 78, 79, 80, 81, 82, 83, 84, 85, 86, 87, 88] [84, 0, 1, 2, 3, 4, 5, 6, 7, 8, 9, 10, 11, 12, 13, 14, 15, 16, 17, 18, 19, 20, 21, 22, 23, 24, 25, 26, 27, 28, 29, 30, 31, 32, 33, 34, 35, 36, 37, 38, 39, 40, 41, 42, 43, 44, 45, 46, 47, 48, 49, 50, 51, 52, 53, 54, 55, 56, 85, 57, 86, 88, 87, 58, 59, 60, 61, 62, 63, 64, 65, 66, 67, 68, 69, 70, 71, 72, 73, 74, 75, 76, 77, 78, 79, 80, 81, 82, 83] rfl (by decide) rfl (by decide) (by decide) rfl (by decide) rfl hl.1 (Nat.le_of_ble_eq_true rfl) rfl nd_Law_law_1169 ⟨by show _ ≤ 601024; omega, by show _ ≤ 7293034; omega⟩ (fun H locs hP hD hS => ?_)
    refine W.widen (k := 400 + n) (n := 20000 + 6 * n) (by omega) (by omega) ?_
    refine lv_istore (lv' := [(5, .int 0), (4, .int (nI n)), (3, .ref qo), (2, .ref (qm 0)), (1, .ref (qc 0)), (0, .ref b)]) hx hb nd_Law_law_1172 hl (by decide) rfl (fun ls hl => ?_)
    refine lv_aload_n hx hb nd_Law_law_1174 rfl (lv_at hl 3 rfl) ?_
    refine lv_aload_n hx hb nd_Law_law_1175 rfl (lv_at hl 5 rfl) ?_
    refine lv_iload hx hb nd_Law_law_1176 (lv_at hl 1 rfl) ?_
    refine lv_iconst (v := 1) hx hb nd_Law_law_1178 (by decide) ?_
    refine lv_iadd hx hb nd_Law_law_1179 ?_
    refine k_sld (n := n) (j := 1) hx hb hX hbl hbA hS (k_sidx rfl) (by omega) hL nd_Law_law_1180 ?_
    refine lv_aload_n hx hb nd_Law_law_1181 rfl (lv_at hl 5 rfl) ?_
    refine lv_iload hx hb nd_Law_law_1182 (lv_at hl 1 rfl) ?_
    refine lv_iconst (v := 2) hx hb nd_Law_law_1184 (by decide) ?_
    refine lv_iadd hx hb nd_Law_law_1185 ?_
    refine k_sld (n := n) (j := 2) hx hb hX hbl hbA hS (k_sidx rfl) (by omega) hL nd_Law_law_1186 ?_
    refine k_wVV (wr := k_pick (wA qc qm qo ca (va_up I 15 R1) J (va_up (va_up A 35 R2) 36 R3) L i a l9 o) [0, 1, 2, 3, 4, 5, 6, 7, 8, 9, 10, 11, 12, 13, 14, 15, 16, 17, 18, 19, 20, 21, 22, 23, 24, 25, 26, 27, 28, 29, 30, 31, 32, 33, 34, 35, 36, 37, 38, 39, 40, 41, 42, 43, 44, 45, 46, 47, 48, 49, 50, 51, 52, 53, 54, 55, 56, 57, 58, 59, 60, 61, 62, 64, 65, 66, 67, 68, 69, 70, 71, 72, 73, 74, 75, 76, 77, 78, 79, 80, 81, 82, 83, 84, 88]) (w2 := wA qc qm qo ca (va_up I 15 R1) J (va_up (va_up A 35 R2) 36 R3) L (va_up i 0 S0) (va_up (va_up a 18 S1) 19 S2) l9 o) (As := [.int (xs (n + 1)), .int (xs (n + 2))]) (rest := []) hx hb hml hown hts (cn_Model_check l D ca (qm 0) (qm 1) (qm 2) (qm 3) (qm 4) (qm 5) (qm 6) (qm 7) (qm 8) (qm 9) (qm 10) (qm 11) (qm 12) (qm 13) (qm 14) (qm 15) (qm 16) (qm 17) (qm 18) (qm 19) (qm 20) (qm 21) (qm 22) (qm 23) (qm 24) (i 0) (i 1) (i 2) (i 3) (i 4) (i 5) (i 6) (i 7) (a 17) (a 18) (a 19) (xs (n + 1)) (xs (n + 2)) S0 S1 S2 e2 _) kc_Model_check kv_Model_check tt_977 ⟨by decide, by decide⟩ rfl rfl hP hK hD hS hA [63, 85, 86, 87] [0, 1, 2, 3, 4, 5, 6, 7, 8, 9, 10, 11, 12, 13, 14, 15, 16, 17, 18, 19, 20, 21, 22, 23, 24, 25, 26, 27, 28, 29, 30, 31, 32, 33, 34, 35, 36, 37, 38, 39, 40, 41, 42, 43, 44, 45, 46, 47, 48, 49, 50, 51, 52, 53, 54, 55, 56, 57, 58, 59, 60, 61, 62, 64, 65, 66, 67, 68, 69, 70, 71, 72, 73, 74, 75, 76, 77, 78, 79, 80, 81, 82, 83, 84, 88] [0, 1, 2, 3, 4, 5, 6, 7, 8, 9, 10, 11, 12, 13, 14, 15, 16, 17, 18, 19, 20, 21, 22, 23, 24, 25, 26, 27, 28, 29, 30, 31, 32, 33, 34, 35, 36, 37, 38, 39, 40, 41, 42, 43, 44, 45, 46, 47, 48, 49, 50, 51, 52, 53, 54, 55, 56, 57, 58, 59, 60, 61, 62, 85, 63, 64, 65, 66, 67, 68, 69, 70, 71, 72, 73, 74, 75, 76, 77, 78, 79, 80, 81, 82, 83, 86, 87, 88, 84] rfl (by decide) rfl (by decide) (by decide) rfl (by decide) 0 rfl rfl rfl rfl hl.1 (Nat.le_of_ble_eq_true rfl) rfl nd_Law_law_1187 ⟨by show _ ≤ 601024; omega, by show _ ≤ 7293034; omega⟩ (fun H locs hP hD hS => ?_)
    refine lv_aload_n hx hb nd_Law_law_1190 rfl (lv_at hl 3 rfl) ?_
    refine k_rVI (As := []) (rest := []) (r := S0) hx hb hml hown hts (cn_Model_thrown l D ca (qm 0) (qm 1) (qm 2) (qm 3) (qm 4) (qm 5) (qm 6) (qm 7) (qm 8) (qm 9) (qm 10) (qm 11) (qm 12) (qm 13) (qm 14) (qm 15) (qm 16) (qm 17) (qm 18) (qm 19) (qm 20) (qm 21) (qm 22) (qm 23) (qm 24) ((va_up i 0 S0) 0) ((va_up i 0 S0) 1) ((va_up i 0 S0) 2) ((va_up i 0 S0) 3) ((va_up i 0 S0) 4) ((va_up i 0 S0) 5) ((va_up i 0 S0) 6) ((va_up i 0 S0) 7) S0 rfl) kc_Model_thrown kv_Model_thrown tt_820 ⟨by decide, by decide⟩ rfl rfl hP hK [63] rfl 0 rfl rfl rfl rfl hl.1 (Nat.le_of_ble_eq_true rfl) rfl nd_Law_law_1191 ⟨by show _ ≤ 601024; omega, by show _ ≤ 7293034; omega⟩ ?_
    refine lv_iload hx hb nd_Law_law_1194 (lv_at hl 0 rfl) ?_
    refine lv_icmp_eq (tgt := 1201) hx hb nd_Law_law_1196 (by decide) (fun c1 => ?_) (fun c1 => ?_)
    rotate_left
    · exact absurd et c1
    refine lv_goto (tgt := 1452) hx hb nd_Law_law_1201 (by decide) ?_
    refine W.widen (k := 400 + n + 1) (n := 20000 + 6 * n + 6) (by omega) (by omega) ?_
    exact hnext _ _ _ _ _ _ _ _ _ _ _ hRel hP hD hS (lv_sub hl [1, 2, 3, 4, 5] rfl)
  ·
    refine lv_aload_n hx hb nd_Law_law_1156 rfl (lv_at hl 3 rfl) ?_
    refine lv_aload_n hx hb nd_Law_law_1157 rfl (lv_at hl 4 rfl) ?_
    refine lv_iload hx hb nd_Law_law_1158 (lv_at hl 0 rfl) ?_
    refine lv_iconst (v := 1) hx hb nd_Law_law_1160 (by decide) ?_
    refine lv_iadd hx hb nd_Law_law_1161 ?_
    refine k_sld (n := n) (j := 1) hx hb hX hbl hbA hS (k_sidx rfl) (by omega) hL nd_Law_law_1162 ?_
    refine lv_aload_n hx hb nd_Law_law_1163 rfl (lv_at hl 4 rfl) ?_
    refine lv_iload hx hb nd_Law_law_1164 (lv_at hl 0 rfl) ?_
    refine lv_iconst (v := 2) hx hb nd_Law_law_1166 (by decide) ?_
    refine lv_iadd hx hb nd_Law_law_1167 ?_
    refine k_sld (n := n) (j := 2) hx hb hX hbl hbA hS (k_sidx rfl) (by omega) hL nd_Law_law_1168 ?_
    refine k_wSWX (wr := k_pick (wA qc qm qo ca I J A L i a l9 o) [1, 2, 3, 4, 5, 6, 7, 8, 9, 10, 11, 12, 13, 14, 15, 16, 17, 18, 19, 20, 21, 22, 23, 24, 25, 26, 27, 28, 29, 30, 31, 32, 33, 34, 35, 36, 37, 38, 39, 40, 41, 42, 43, 44, 45, 46, 47, 48, 49, 50, 51, 52, 53, 54, 55, 56, 57, 59, 63, 64, 65, 66, 67, 68, 69, 70, 71, 72, 73, 74, 75, 76, 77, 78, 79, 80, 81, 82, 83, 84, 85, 86, 87, 88]) (w2 := wA qc qm qo ca I J A L i a l9 o) (As := [.ref (qc 0), .int (xs (n + 1)), .int (xs (n + 2))]) (rest := []) (r := 1) hx hb hml hown hts (hx_Law_check_1 l hlt D ca (qc 0) (qc 1) (qc 19) (qc 34) (qc 47) (qc 48) (qc 58) (qc 59) (qc 60) (qc 61) (qc 62) (I 0) (I 15) (A 34) (A 36) (A 35) (xs (n + 1)) (xs (n + 2)) e1 _) kc_Law_check ks_Law_check tt_616 ⟨by decide, by decide⟩ rfl rfl hP hK hD hS hA hev [0, 58, 60, 62, 61] [1, 2, 3, 4, 5, 6, 7, 8, 9, 10, 11, 12, 13, 14, 15, 16, 17, 18, 19, 20, 21, 22, 23, 24, 25, 26, 27, 28, 29, 30, 31, 32, 33, 34, 35, 36, 37, 38, 39, 40, 41, 42, 43, 44, 45, 46, 47, 48, 49, 50, 51, 52, 53, 54, 55, 56, 57, 59, 63, 64, 65, 66, 67, 68, 69, 70, 71, 72, 73, 74, 75, 76, 77, 78, 79, 80, 81, 82, 83, 84, 85, 86, 87, 88] [84, 0, 1, 2, 3, 4, 5, 6, 7, 8, 9, 10, 11, 12, 13, 14, 15, 16, 17, 18, 19, 20, 21, 22, 23, 24, 25, 26, 27, 28, 29, 30, 31, 32, 33, 34, 35, 36, 37, 38, 39, 40, 41, 42, 43, 44, 45, 46, 47, 48, 49, 50, 51, 52, 53, 54, 55, 56, 85, 57, 86, 88, 87, 58, 59, 60, 61, 62, 63, 64, 65, 66, 67, 68, 69, 70, 71, 72, 73, 74, 75, 76, 77, 78, 79, 80, 81, 82, 83] rfl (by decide) rfl (by decide) (by decide) rfl (by decide) rfl hl.1 (Nat.le_of_ble_eq_true rfl) rfl nd_Law_law_1169 ⟨by show _ ≤ 601024; omega, by show _ ≤ 7293034; omega⟩ (fun H locs hP hD hS => ?_)
    refine W.widen (k := 400 + n + 1) (n := 20000 + 6 * n + 6) (by omega) (by omega) ?_
    refine lv_istore (lv' := [(5, .int 1), (4, .int (nI n)), (3, .ref qo), (2, .ref (qm 0)), (1, .ref (qc 0)), (0, .ref b)]) hx hb nd_Law_law_1172 hl (by decide) rfl (fun ls hl => ?_)
    refine lv_aload_n hx hb nd_Law_law_1174 rfl (lv_at hl 3 rfl) ?_
    refine lv_aload_n hx hb nd_Law_law_1175 rfl (lv_at hl 5 rfl) ?_
    refine lv_iload hx hb nd_Law_law_1176 (lv_at hl 1 rfl) ?_
    refine lv_iconst (v := 1) hx hb nd_Law_law_1178 (by decide) ?_
    refine lv_iadd hx hb nd_Law_law_1179 ?_
    refine k_sld (n := n) (j := 1) hx hb hX hbl hbA hS (k_sidx rfl) (by omega) hL nd_Law_law_1180 ?_
    refine lv_aload_n hx hb nd_Law_law_1181 rfl (lv_at hl 5 rfl) ?_
    refine lv_iload hx hb nd_Law_law_1182 (lv_at hl 1 rfl) ?_
    refine lv_iconst (v := 2) hx hb nd_Law_law_1184 (by decide) ?_
    refine lv_iadd hx hb nd_Law_law_1185 ?_
    refine k_sld (n := n) (j := 2) hx hb hX hbl hbA hS (k_sidx rfl) (by omega) hL nd_Law_law_1186 ?_
    refine k_wVV (wr := k_pick (wA qc qm qo ca I J A L i a l9 o) [0, 1, 2, 3, 4, 5, 6, 7, 8, 9, 10, 11, 12, 13, 14, 15, 16, 17, 18, 19, 20, 21, 22, 23, 24, 25, 26, 27, 28, 29, 30, 31, 32, 33, 34, 35, 36, 37, 38, 39, 40, 41, 42, 43, 44, 45, 46, 47, 48, 49, 50, 51, 52, 53, 54, 55, 56, 57, 58, 59, 60, 61, 62, 64, 65, 66, 67, 68, 69, 70, 71, 72, 73, 74, 75, 76, 77, 78, 79, 80, 81, 82, 83, 84, 88]) (w2 := wA qc qm qo ca I J A L (va_up i 0 S0) (va_up (va_up a 18 S1) 19 S2) l9 o) (As := [.int (xs (n + 1)), .int (xs (n + 2))]) (rest := []) hx hb hml hown hts (cn_Model_check l D ca (qm 0) (qm 1) (qm 2) (qm 3) (qm 4) (qm 5) (qm 6) (qm 7) (qm 8) (qm 9) (qm 10) (qm 11) (qm 12) (qm 13) (qm 14) (qm 15) (qm 16) (qm 17) (qm 18) (qm 19) (qm 20) (qm 21) (qm 22) (qm 23) (qm 24) (i 0) (i 1) (i 2) (i 3) (i 4) (i 5) (i 6) (i 7) (a 17) (a 18) (a 19) (xs (n + 1)) (xs (n + 2)) S0 S1 S2 e2 _) kc_Model_check kv_Model_check tt_977 ⟨by decide, by decide⟩ rfl rfl hP hK hD hS hA [63, 85, 86, 87] [0, 1, 2, 3, 4, 5, 6, 7, 8, 9, 10, 11, 12, 13, 14, 15, 16, 17, 18, 19, 20, 21, 22, 23, 24, 25, 26, 27, 28, 29, 30, 31, 32, 33, 34, 35, 36, 37, 38, 39, 40, 41, 42, 43, 44, 45, 46, 47, 48, 49, 50, 51, 52, 53, 54, 55, 56, 57, 58, 59, 60, 61, 62, 64, 65, 66, 67, 68, 69, 70, 71, 72, 73, 74, 75, 76, 77, 78, 79, 80, 81, 82, 83, 84, 88] [0, 1, 2, 3, 4, 5, 6, 7, 8, 9, 10, 11, 12, 13, 14, 15, 16, 17, 18, 19, 20, 21, 22, 23, 24, 25, 26, 27, 28, 29, 30, 31, 32, 33, 34, 35, 36, 37, 38, 39, 40, 41, 42, 43, 44, 45, 46, 47, 48, 49, 50, 51, 52, 53, 54, 55, 56, 57, 58, 59, 60, 61, 62, 85, 63, 64, 65, 66, 67, 68, 69, 70, 71, 72, 73, 74, 75, 76, 77, 78, 79, 80, 81, 82, 83, 86, 87, 88, 84] rfl (by decide) rfl (by decide) (by decide) rfl (by decide) 0 rfl rfl rfl rfl hl.1 (Nat.le_of_ble_eq_true rfl) rfl nd_Law_law_1187 ⟨by show _ ≤ 601024; omega, by show _ ≤ 7293034; omega⟩ (fun H locs hP hD hS => ?_)
    refine lv_aload_n hx hb nd_Law_law_1190 rfl (lv_at hl 3 rfl) ?_
    refine k_rVI (As := []) (rest := []) (r := S0) hx hb hml hown hts (cn_Model_thrown l D ca (qm 0) (qm 1) (qm 2) (qm 3) (qm 4) (qm 5) (qm 6) (qm 7) (qm 8) (qm 9) (qm 10) (qm 11) (qm 12) (qm 13) (qm 14) (qm 15) (qm 16) (qm 17) (qm 18) (qm 19) (qm 20) (qm 21) (qm 22) (qm 23) (qm 24) ((va_up i 0 S0) 0) ((va_up i 0 S0) 1) ((va_up i 0 S0) 2) ((va_up i 0 S0) 3) ((va_up i 0 S0) 4) ((va_up i 0 S0) 5) ((va_up i 0 S0) 6) ((va_up i 0 S0) 7) S0 rfl) kc_Model_thrown kv_Model_thrown tt_820 ⟨by decide, by decide⟩ rfl rfl hP hK [63] rfl 0 rfl rfl rfl rfl hl.1 (Nat.le_of_ble_eq_true rfl) rfl nd_Law_law_1191 ⟨by show _ ≤ 601024; omega, by show _ ≤ 7293034; omega⟩ ?_
    refine lv_iload hx hb nd_Law_law_1194 (lv_at hl 0 rfl) ?_
    refine lv_icmp_eq (tgt := 1201) hx hb nd_Law_law_1196 (by decide) (fun c2 => ?_) (fun c2 => ?_)
    rotate_left
    · exact absurd et c2
    refine lv_goto (tgt := 1452) hx hb nd_Law_law_1201 (by decide) ?_
    refine W.widen (k := 400 + n + 1) (n := 20000 + 6 * n + 6) (by omega) (by omega) ?_
    exact hnext _ _ _ _ _ _ _ _ _ _ _ hRel hP hD hS (lv_sub hl [1, 2, 3, 4, 5] rfl)
  ·
    refine lv_aload_n hx hb nd_Law_law_1156 rfl (lv_at hl 3 rfl) ?_
    refine lv_aload_n hx hb nd_Law_law_1157 rfl (lv_at hl 4 rfl) ?_
    refine lv_iload hx hb nd_Law_law_1158 (lv_at hl 0 rfl) ?_
    refine lv_iconst (v := 1) hx hb nd_Law_law_1160 (by decide) ?_
    refine lv_iadd hx hb nd_Law_law_1161 ?_
    refine k_sld (n := n) (j := 1) hx hb hX hbl hbA hS (k_sidx rfl) (by omega) hL nd_Law_law_1162 ?_
    refine lv_aload_n hx hb nd_Law_law_1163 rfl (lv_at hl 4 rfl) ?_
    refine lv_iload hx hb nd_Law_law_1164 (lv_at hl 0 rfl) ?_
    refine lv_iconst (v := 2) hx hb nd_Law_law_1166 (by decide) ?_
    refine lv_iadd hx hb nd_Law_law_1167 ?_
    refine k_sld (n := n) (j := 2) hx hb hX hbl hbA hS (k_sidx rfl) (by omega) hL nd_Law_law_1168 ?_
    refine k_wSWX (wr := k_pick (wA qc qm qo ca I J A L i a l9 o) [1, 2, 3, 4, 5, 6, 7, 8, 9, 10, 11, 12, 13, 14, 15, 16, 17, 18, 19, 20, 21, 22, 23, 24, 25, 26, 27, 28, 29, 30, 31, 32, 33, 34, 35, 36, 37, 38, 39, 40, 41, 42, 43, 44, 45, 46, 47, 48, 49, 50, 51, 52, 53, 54, 55, 56, 57, 59, 63, 64, 65, 66, 67, 68, 69, 70, 71, 72, 73, 74, 75, 76, 77, 78, 79, 80, 81, 82, 83, 84, 85, 86, 87, 88]) (w2 := wA qc qm qo ca I J A L i a l9 o) (As := [.ref (qc 0), .int (xs (n + 1)), .int (xs (n + 2))]) (rest := []) (r := 2) hx hb hml hown hts (hx_Law_check_2 l hlt D ca (qc 0) (qc 1) (qc 19) (qc 34) (qc 47) (qc 48) (qc 58) (qc 59) (qc 60) (qc 61) (qc 62) (I 0) (I 15) (A 34) (A 36) (A 35) (xs (n + 1)) (xs (n + 2)) e1 _) kc_Law_check ks_Law_check tt_616 ⟨by decide, by decide⟩ rfl rfl hP hK hD hS hA hev [0, 58, 60, 62, 61] [1, 2, 3, 4, 5, 6, 7, 8, 9, 10, 11, 12, 13, 14, 15, 16, 17, 18, 19, 20, 21, 22, 23, 24, 25, 26, 27, 28, 29, 30, 31, 32, 33, 34, 35, 36, 37, 38, 39, 40, 41, 42, 43, 44, 45, 46, 47, 48, 49, 50, 51, 52, 53, 54, 55, 56, 57, 59, 63, 64, 65, 66, 67, 68, 69, 70, 71, 72, 73, 74, 75, 76, 77, 78, 79, 80, 81, 82, 83, 84, 85, 86, 87, 88] [84, 0, 1, 2, 3, 4, 5, 6, 7, 8, 9, 10, 11, 12, 13, 14, 15, 16, 17, 18, 19, 20, 21, 22, 23, 24, 25, 26, 27, 28, 29, 30, 31, 32, 33, 34, 35, 36, 37, 38, 39, 40, 41, 42, 43, 44, 45, 46, 47, 48, 49, 50, 51, 52, 53, 54, 55, 56, 85, 57, 86, 88, 87, 58, 59, 60, 61, 62, 63, 64, 65, 66, 67, 68, 69, 70, 71, 72, 73, 74, 75, 76, 77, 78, 79, 80, 81, 82, 83] rfl (by decide) rfl (by decide) (by decide) rfl (by decide) rfl hl.1 (Nat.le_of_ble_eq_true rfl) rfl nd_Law_law_1169 ⟨by show _ ≤ 601024; omega, by show _ ≤ 7293034; omega⟩ (fun H locs hP hD hS => ?_)
    refine W.widen (k := 400 + n + 1) (n := 20000 + 6 * n + 6) (by omega) (by omega) ?_
    refine lv_istore (lv' := [(5, .int 2), (4, .int (nI n)), (3, .ref qo), (2, .ref (qm 0)), (1, .ref (qc 0)), (0, .ref b)]) hx hb nd_Law_law_1172 hl (by decide) rfl (fun ls hl => ?_)
    refine lv_aload_n hx hb nd_Law_law_1174 rfl (lv_at hl 3 rfl) ?_
    refine lv_aload_n hx hb nd_Law_law_1175 rfl (lv_at hl 5 rfl) ?_
    refine lv_iload hx hb nd_Law_law_1176 (lv_at hl 1 rfl) ?_
    refine lv_iconst (v := 1) hx hb nd_Law_law_1178 (by decide) ?_
    refine lv_iadd hx hb nd_Law_law_1179 ?_
    refine k_sld (n := n) (j := 1) hx hb hX hbl hbA hS (k_sidx rfl) (by omega) hL nd_Law_law_1180 ?_
    refine lv_aload_n hx hb nd_Law_law_1181 rfl (lv_at hl 5 rfl) ?_
    refine lv_iload hx hb nd_Law_law_1182 (lv_at hl 1 rfl) ?_
    refine lv_iconst (v := 2) hx hb nd_Law_law_1184 (by decide) ?_
    refine lv_iadd hx hb nd_Law_law_1185 ?_
    refine k_sld (n := n) (j := 2) hx hb hX hbl hbA hS (k_sidx rfl) (by omega) hL nd_Law_law_1186 ?_
    refine k_wVV (wr := k_pick (wA qc qm qo ca I J A L i a l9 o) [0, 1, 2, 3, 4, 5, 6, 7, 8, 9, 10, 11, 12, 13, 14, 15, 16, 17, 18, 19, 20, 21, 22, 23, 24, 25, 26, 27, 28, 29, 30, 31, 32, 33, 34, 35, 36, 37, 38, 39, 40, 41, 42, 43, 44, 45, 46, 47, 48, 49, 50, 51, 52, 53, 54, 55, 56, 57, 58, 59, 60, 61, 62, 64, 65, 66, 67, 68, 69, 70, 71, 72, 73, 74, 75, 76, 77, 78, 79, 80, 81, 82, 83, 84, 88]) (w2 := wA qc qm qo ca I J A L (va_up i 0 S0) (va_up (va_up a 18 S1) 19 S2) l9 o) (As := [.int (xs (n + 1)), .int (xs (n + 2))]) (rest := []) hx hb hml hown hts (cn_Model_check l D ca (qm 0) (qm 1) (qm 2) (qm 3) (qm 4) (qm 5) (qm 6) (qm 7) (qm 8) (qm 9) (qm 10) (qm 11) (qm 12) (qm 13) (qm 14) (qm 15) (qm 16) (qm 17) (qm 18) (qm 19) (qm 20) (qm 21) (qm 22) (qm 23) (qm 24) (i 0) (i 1) (i 2) (i 3) (i 4) (i 5) (i 6) (i 7) (a 17) (a 18) (a 19) (xs (n + 1)) (xs (n + 2)) S0 S1 S2 e2 _) kc_Model_check kv_Model_check tt_977 ⟨by decide, by decide⟩ rfl rfl hP hK hD hS hA [63, 85, 86, 87] [0, 1, 2, 3, 4, 5, 6, 7, 8, 9, 10, 11, 12, 13, 14, 15, 16, 17, 18, 19, 20, 21, 22, 23, 24, 25, 26, 27, 28, 29, 30, 31, 32, 33, 34, 35, 36, 37, 38, 39, 40, 41, 42, 43, 44, 45, 46, 47, 48, 49, 50, 51, 52, 53, 54, 55, 56, 57, 58, 59, 60, 61, 62, 64, 65, 66, 67, 68, 69, 70, 71, 72, 73, 74, 75, 76, 77, 78, 79, 80, 81, 82, 83, 84, 88] [0, 1, 2, 3, 4, 5, 6, 7, 8, 9, 10, 11, 12, 13, 14, 15, 16, 17, 18, 19, 20, 21, 22, 23, 24, 25, 26, 27, 28, 29, 30, 31, 32, 33, 34, 35, 36, 37, 38, 39, 40, 41, 42, 43, 44, 45, 46, 47, 48, 49, 50, 51, 52, 53, 54, 55, 56, 57, 58, 59, 60, 61, 62, 85, 63, 64, 65, 66, 67, 68, 69, 70, 71, 72, 73, 74, 75, 76, 77, 78, 79, 80, 81, 82, 83, 86, 87, 88, 84] rfl (by decide) rfl (by decide) (by decide) rfl (by decide) 0 rfl rfl rfl rfl hl.1 (Nat.le_of_ble_eq_true rfl) rfl nd_Law_law_1187 ⟨by show _ ≤ 601024; omega, by show _ ≤ 7293034; omega⟩ (fun H locs hP hD hS => ?_)
    refine lv_aload_n hx hb nd_Law_law_1190 rfl (lv_at hl 3 rfl) ?_
    refine k_rVI (As := []) (rest := []) (r := S0) hx hb hml hown hts (cn_Model_thrown l D ca (qm 0) (qm 1) (qm 2) (qm 3) (qm 4) (qm 5) (qm 6) (qm 7) (qm 8) (qm 9) (qm 10) (qm 11) (qm 12) (qm 13) (qm 14) (qm 15) (qm 16) (qm 17) (qm 18) (qm 19) (qm 20) (qm 21) (qm 22) (qm 23) (qm 24) ((va_up i 0 S0) 0) ((va_up i 0 S0) 1) ((va_up i 0 S0) 2) ((va_up i 0 S0) 3) ((va_up i 0 S0) 4) ((va_up i 0 S0) 5) ((va_up i 0 S0) 6) ((va_up i 0 S0) 7) S0 rfl) kc_Model_thrown kv_Model_thrown tt_820 ⟨by decide, by decide⟩ rfl rfl hP hK [63] rfl 0 rfl rfl rfl rfl hl.1 (Nat.le_of_ble_eq_true rfl) rfl nd_Law_law_1191 ⟨by show _ ≤ 601024; omega, by show _ ≤ 7293034; omega⟩ ?_
    refine lv_iload hx hb nd_Law_law_1194 (lv_at hl 0 rfl) ?_
    refine lv_icmp_eq (tgt := 1201) hx hb nd_Law_law_1196 (by decide) (fun c3 => ?_) (fun c3 => ?_)
    rotate_left
    · exact absurd et c3
    refine lv_goto (tgt := 1452) hx hb nd_Law_law_1201 (by decide) ?_
    refine W.widen (k := 400 + n + 1) (n := 20000 + 6 * n + 6) (by omega) (by omega) ?_
    exact hnext _ _ _ _ _ _ _ _ _ _ _ hRel hP hD hS (lv_sub hl [1, 2, 3, 4, 5] rfl)
  ·
    refine lv_aload_n hx hb nd_Law_law_1156 rfl (lv_at hl 3 rfl) ?_
    refine lv_aload_n hx hb nd_Law_law_1157 rfl (lv_at hl 4 rfl) ?_
    refine lv_iload hx hb nd_Law_law_1158 (lv_at hl 0 rfl) ?_
    refine lv_iconst (v := 1) hx hb nd_Law_law_1160 (by decide) ?_
    refine lv_iadd hx hb nd_Law_law_1161 ?_
    refine k_sld (n := n) (j := 1) hx hb hX hbl hbA hS (k_sidx rfl) (by omega) hL nd_Law_law_1162 ?_
    refine lv_aload_n hx hb nd_Law_law_1163 rfl (lv_at hl 4 rfl) ?_
    refine lv_iload hx hb nd_Law_law_1164 (lv_at hl 0 rfl) ?_
    refine lv_iconst (v := 2) hx hb nd_Law_law_1166 (by decide) ?_
    refine lv_iadd hx hb nd_Law_law_1167 ?_
    refine k_sld (n := n) (j := 2) hx hb hX hbl hbA hS (k_sidx rfl) (by omega) hL nd_Law_law_1168 ?_
    refine k_wSWX (wr := k_pick (wA qc qm qo ca I J A L i a l9 o) [1, 2, 3, 4, 5, 6, 7, 8, 9, 10, 11, 12, 13, 14, 15, 16, 17, 18, 19, 20, 21, 22, 23, 24, 25, 26, 27, 28, 29, 30, 31, 32, 33, 34, 35, 36, 37, 38, 39, 40, 41, 42, 43, 44, 45, 46, 47, 48, 49, 50, 51, 52, 53, 54, 55, 56, 57, 59, 63, 64, 65, 66, 67, 68, 69, 70, 71, 72, 73, 74, 75, 76, 77, 78, 79, 80, 81, 82, 83, 84, 85, 86, 87, 88]) (w2 := wA qc qm qo ca I J A L i a l9 o) (As := [.ref (qc 0), .int (xs (n + 1)), .int (xs (n + 2))]) (rest := []) (r := 3) hx hb hml hown hts (hx_Law_check_3 l hlt D ca (qc 0) (qc 1) (qc 19) (qc 34) (qc 47) (qc 48) (qc 58) (qc 59) (qc 60) (qc 61) (qc 62) (I 0) (I 15) (A 34) (A 36) (A 35) (xs (n + 1)) (xs (n + 2)) e1 _) kc_Law_check ks_Law_check tt_616 ⟨by decide, by decide⟩ rfl rfl hP hK hD hS hA hev [0, 58, 60, 62, 61] [1, 2, 3, 4, 5, 6, 7, 8, 9, 10, 11, 12, 13, 14, 15, 16, 17, 18, 19, 20, 21, 22, 23, 24, 25, 26, 27, 28, 29, 30, 31, 32, 33, 34, 35, 36, 37, 38, 39, 40, 41, 42, 43, 44, 45, 46, 47, 48, 49, 50, 51, 52, 53, 54, 55, 56, 57, 59, 63, 64, 65, 66, 67, 68, 69, 70, 71, 72, 73, 74, 75, 76, 77, 78, 79, 80, 81, 82, 83, 84, 85, 86, 87, 88] [84, 0, 1, 2, 3, 4, 5, 6, 7, 8, 9, 10, 11, 12, 13, 14, 15, 16, 17, 18, 19, 20, 21, 22, 23, 24, 25, 26, 27, 28, 29, 30, 31, 32, 33, 34, 35, 36, 37, 38, 39, 40, 41, 42, 43, 44, 45, 46, 47, 48, 49, 50, 51, 52, 53, 54, 55, 56, 85, 57, 86, 88, 87, 58, 59, 60, 61, 62, 63, 64, 65, 66, 67, 68, 69, 70, 71, 72, 73, 74, 75, 76, 77, 78, 79, 80, 81, 82, 83] rfl (by decide) rfl (by decide) (by decide) rfl (by decide) rfl hl.1 (Nat.le_of_ble_eq_true rfl) rfl nd_Law_law_1169 ⟨by show _ ≤ 601024; omega, by show _ ≤ 7293034; omega⟩ (fun H locs hP hD hS => ?_)
    refine W.widen (k := 400 + n + 1) (n := 20000 + 6 * n + 6) (by omega) (by omega) ?_
    refine lv_istore (lv' := [(5, .int 3), (4, .int (nI n)), (3, .ref qo), (2, .ref (qm 0)), (1, .ref (qc 0)), (0, .ref b)]) hx hb nd_Law_law_1172 hl (by decide) rfl (fun ls hl => ?_)
    refine lv_aload_n hx hb nd_Law_law_1174 rfl (lv_at hl 3 rfl) ?_
    refine lv_aload_n hx hb nd_Law_law_1175 rfl (lv_at hl 5 rfl) ?_
    refine lv_iload hx hb nd_Law_law_1176 (lv_at hl 1 rfl) ?_
    refine lv_iconst (v := 1) hx hb nd_Law_law_1178 (by decide) ?_
    refine lv_iadd hx hb nd_Law_law_1179 ?_
    refine k_sld (n := n) (j := 1) hx hb hX hbl hbA hS (k_sidx rfl) (by omega) hL nd_Law_law_1180 ?_
    refine lv_aload_n hx hb nd_Law_law_1181 rfl (lv_at hl 5 rfl) ?_
    refine lv_iload hx hb nd_Law_law_1182 (lv_at hl 1 rfl) ?_
    refine lv_iconst (v := 2) hx hb nd_Law_law_1184 (by decide) ?_
    refine lv_iadd hx hb nd_Law_law_1185 ?_
    refine k_sld (n := n) (j := 2) hx hb hX hbl hbA hS (k_sidx rfl) (by omega) hL nd_Law_law_1186 ?_
    refine k_wVV (wr := k_pick (wA qc qm qo ca I J A L i a l9 o) [0, 1, 2, 3, 4, 5, 6, 7, 8, 9, 10, 11, 12, 13, 14, 15, 16, 17, 18, 19, 20, 21, 22, 23, 24, 25, 26, 27, 28, 29, 30, 31, 32, 33, 34, 35, 36, 37, 38, 39, 40, 41, 42, 43, 44, 45, 46, 47, 48, 49, 50, 51, 52, 53, 54, 55, 56, 57, 58, 59, 60, 61, 62, 64, 65, 66, 67, 68, 69, 70, 71, 72, 73, 74, 75, 76, 77, 78, 79, 80, 81, 82, 83, 84, 88]) (w2 := wA qc qm qo ca I J A L (va_up i 0 S0) (va_up (va_up a 18 S1) 19 S2) l9 o) (As := [.int (xs (n + 1)), .int (xs (n + 2))]) (rest := []) hx hb hml hown hts (cn_Model_check l D ca (qm 0) (qm 1) (qm 2) (qm 3) (qm 4) (qm 5) (qm 6) (qm 7) (qm 8) (qm 9) (qm 10) (qm 11) (qm 12) (qm 13) (qm 14) (qm 15) (qm 16) (qm 17) (qm 18) (qm 19) (qm 20) (qm 21) (qm 22) (qm 23) (qm 24) (i 0) (i 1) (i 2) (i 3) (i 4) (i 5) (i 6) (i 7) (a 17) (a 18) (a 19) (xs (n + 1)) (xs (n + 2)) S0 S1 S2 e2 _) kc_Model_check kv_Model_check tt_977 ⟨by decide, by decide⟩ rfl rfl hP hK hD hS hA [63, 85, 86, 87] [0, 1, 2, 3, 4, 5, 6, 7, 8, 9, 10, 11, 12, 13, 14, 15, 16, 17, 18, 19, 20, 21, 22, 23, 24, 25, 26, 27, 28, 29, 30, 31, 32, 33, 34, 35, 36, 37, 38, 39, 40, 41, 42, 43, 44, 45, 46, 47, 48, 49, 50, 51, 52, 53, 54, 55, 56, 57, 58, 59, 60, 61, 62, 64, 65, 66, 67, 68, 69, 70, 71, 72, 73, 74, 75, 76, 77, 78, 79, 80, 81, 82, 83, 84, 88] [0, 1, 2, 3, 4, 5, 6, 7, 8, 9, 10, 11, 12, 13, 14, 15, 16, 17, 18, 19, 20, 21, 22, 23, 24, 25, 26, 27, 28, 29, 30, 31, 32, 33, 34, 35, 36, 37, 38, 39, 40, 41, 42, 43, 44, 45, 46, 47, 48, 49, 50, 51, 52, 53, 54, 55, 56, 57, 58, 59, 60, 61, 62, 85, 63, 64, 65, 66, 67, 68, 69, 70, 71, 72, 73, 74, 75, 76, 77, 78, 79, 80, 81, 82, 83, 86, 87, 88, 84] rfl (by decide) rfl (by decide) (by decide) rfl (by decide) 0 rfl rfl rfl rfl hl.1 (Nat.le_of_ble_eq_true rfl) rfl nd_Law_law_1187 ⟨by show _ ≤ 601024; omega, by show _ ≤ 7293034; omega⟩ (fun H locs hP hD hS => ?_)
    refine lv_aload_n hx hb nd_Law_law_1190 rfl (lv_at hl 3 rfl) ?_
    refine k_rVI (As := []) (rest := []) (r := S0) hx hb hml hown hts (cn_Model_thrown l D ca (qm 0) (qm 1) (qm 2) (qm 3) (qm 4) (qm 5) (qm 6) (qm 7) (qm 8) (qm 9) (qm 10) (qm 11) (qm 12) (qm 13) (qm 14) (qm 15) (qm 16) (qm 17) (qm 18) (qm 19) (qm 20) (qm 21) (qm 22) (qm 23) (qm 24) ((va_up i 0 S0) 0) ((va_up i 0 S0) 1) ((va_up i 0 S0) 2) ((va_up i 0 S0) 3) ((va_up i 0 S0) 4) ((va_up i 0 S0) 5) ((va_up i 0 S0) 6) ((va_up i 0 S0) 7) S0 rfl) kc_Model_thrown kv_Model_thrown tt_820 ⟨by decide, by decide⟩ rfl rfl hP hK [63] rfl 0 rfl rfl rfl rfl hl.1 (Nat.le_of_ble_eq_true rfl) rfl nd_Law_law_1191 ⟨by show _ ≤ 601024; omega, by show _ ≤ 7293034; omega⟩ ?_
    refine lv_iload hx hb nd_Law_law_1194 (lv_at hl 0 rfl) ?_
    refine lv_icmp_eq (tgt := 1201) hx hb nd_Law_law_1196 (by decide) (fun c4 => ?_) (fun c4 => ?_)
    rotate_left
    · exact absurd et c4
    refine lv_goto (tgt := 1452) hx hb nd_Law_law_1201 (by decide) ?_
    refine W.widen (k := 400 + n + 1) (n := 20000 + 6 * n + 6) (by omega) (by omega) ?_
    exact hnext _ _ _ _ _ _ _ _ _ _ _ hRel hP hD hS (lv_sub hl [1, 2, 3, 4, 5] rfl)
set_option maxHeartbeats 8000000 in
set_option maxRecDepth 100000 in
theorem lc_corrected {p : Program} {l : Launch} {e : Env} {s : State} {m : MethodId} {below : List Frame} {meth : Method} {c : Code} {D : va_G} {ca : Nat → ClassId} {b Ls : Nat} {xs : Nat → Int32} (C0 : lw_At p s m meth c b Ls xs) (hL : Ls ≤ 2560) (hlt : l.stackTraces = false) (hev0 : xt_ev s s.heap) (hK : va_K D vwCl (tyG ca) s) {Rel : (Nat → Int32) → (Nat → Int64) → (Nat → Nat → Int32) → (Nat → Nat → Int64) → (Nat → Int32) → (Nat → Nat → Int32) → (Nat → Nat → Int64) → Prop} {qc qm : Nat → Nat} {qo : Nat} {I : Nat → Int32} {J : Nat → Int64} {A : Nat → Nat → Int32} {L : Nat → Nat → Int64} {i : Nat → Int32} {a : Nat → Nat → Int32} {l9 : Nat → Nat → Int64} {o : Nat → Int64} {n : Nat} (hn : n + 5 ≤ Ls) {H : Heap} {locs : List Loc} {ls : Array Slot} (hP : va_P D vwCl (wA qc qm qo ca I J A L i a l9 o) H) (hD : va_D (fun q : Nat => s.heap.size ≤ q) (wA qc qm qo ca I J A L i a l9 o)) (hS : va_S (fun q : Nat => s.heap.size ≤ q) s.heap H locs) (hl : lv_has ls 8 [(4, .int (nI n)), (3, .ref qo), (2, .ref (qm 0)), (1, .ref (qc 0)), (0, .ref b)]) (hst : st_corrected Rel I J A L i a l9 o (xs (n + 1))) (hnext : ∀ (I : Nat → Int32) (J : Nat → Int64) (A : Nat → Nat → Int32) (L : Nat → Nat → Int64) (i : Nat → Int32) (a : Nat → Nat → Int32) (l9 : Nat → Nat → Int64) (o : Nat → Int64) (H : Heap) (locs : List Loc) (ls : Array Slot), Rel I J A L i a l9 → va_P D vwCl (wA qc qm qo ca I J A L i a l9 o) H → va_D (fun q : Nat => s.heap.size ≤ q) (wA qc qm qo ca I J A L i a l9 o) → va_S (fun q : Nat => s.heap.size ≤ q) s.heap H locs → lv_has ls 8 [(4, .int (nI n)), (3, .ref qo), (2, .ref (qm 0)), (1, .ref (qc 0)), (0, .ref b)] → W p l e room_1 s m #[Value.ref b] below meth c H locs (400 + n + 1) (20000 + 6 * n + 6) (lw_Z below #[Value.ref b] s) (F0 m 1452 ls [])) : W p l e room_1 s m #[Value.ref b] below meth c H locs (400 + n) (20000 + 6 * n) (lw_Z below #[Value.ref b] s) (F0 m 1204 ls []) := by
  obtain ⟨hx, hb, hr, hml, hown, hts0, hX, hbl, hlocks, hgv⟩ := C0
  have hts : ∀ w ∈ TT, w.before #[Value.ref b] s = true := fun w h => hts0 w (List.mem_filter.mp h).1
  have hA : ∀ q : Nat, s.heap.size ≤ q → (fun q : Nat => s.heap.size ≤ q) q := fun _ h => h
  have hbA : ¬ (fun q : Nat => s.heap.size ≤ q) b := Nat.not_le.mpr hbl
  have hown : s.vm.findClass nR_Law = some m.cls := hown
  have hev : xt_ev s H := k_evH hev0 hS
  unfold st_corrected at hst
  rcases hst with ⟨R1, S0, S1, e1, e2, et, ea, hRel⟩ | ⟨S0, S1, e1, e2, et, hRel⟩
  ·
    refine lv_aload_n hx hb nd_Law_law_1204 rfl (lv_at hl 3 rfl) ?_
    refine lv_aload_n hx hb nd_Law_law_1205 rfl (lv_at hl 4 rfl) ?_
    refine lv_iload hx hb nd_Law_law_1206 (lv_at hl 0 rfl) ?_
    refine lv_iconst (v := 1) hx hb nd_Law_law_1208 (by decide) ?_
    refine lv_iadd hx hb nd_Law_law_1209 ?_
    refine k_sld (n := n) (j := 1) hx hb hX hbl hbA hS (k_sidx rfl) (by omega) hL nd_Law_law_1210 ?_
    refine lv_aload_n hx hb nd_Law_law_1211 rfl (lv_at hl 1 rfl) ?_
    refine k_wSWI (wr := k_pick (wA qc qm qo ca I J A L i a l9 o) [1, 2, 3, 4, 5, 6, 7, 8, 9, 10, 11, 12, 13, 14, 15, 16, 17, 18, 19, 20, 21, 22, 23, 24, 25, 26, 27, 28, 29, 30, 31, 32, 33, 34, 35, 36, 37, 38, 39, 40, 41, 42, 43, 44, 45, 46, 47, 48, 49, 50, 51, 52, 53, 54, 55, 56, 57, 63, 64, 65, 66, 67, 68, 69, 70, 71, 72, 73, 74, 75, 76, 77, 78, 79, 80, 81, 82, 83, 84, 85, 86, 87]) (w2 := wA qc qm qo ca I J A L i a l9 R1) (As := [.ref (qc 0), .int (xs (n + 1)), .ref qo]) (rest := []) (r := 0) hx hb hml hown hts (cn_Law_corrected l D ca (qc 0) (qc 1) (qc 19) (qc 34) (qc 47) (qc 48) (qc 58) (qc 59) (qc 60) (qc 61) (qc 62) qo (I 0) (I 15) (A 34) (A 33) (A 36) (A 35) o (xs (n + 1)) (0 : Int32) R1 e1 _) kc_Law_corrected ks_Law_corrected tt_628 ⟨by decide, by decide⟩ rfl rfl hP hK hD hS hA [0, 58, 60, 59, 62, 61, 88] [1, 2, 3, 4, 5, 6, 7, 8, 9, 10, 11, 12, 13, 14, 15, 16, 17, 18, 19, 20, 21, 22, 23, 24, 25, 26, 27, 28, 29, 30, 31, 32, 33, 34, 35, 36, 37, 38, 39, 40, 41, 42, 43, 44, 45, 46, 47, 48, 49, 50, 51, 52, 53, 54, 55, 56, 57, 63, 64, 65, 66, 67, 68, 69, 70, 71, 72, 73, 74, 75, 76, 77, 78, 79, 80, 81, 82, 83, 84, 85, 86, 87] [82, 0, 1, 2, 3, 4, 5, 6, 7, 8, 9, 10, 11, 12, 13, 14, 15, 16, 17, 18, 19, 20, 21, 22, 23, 24, 25, 26, 27, 28, 29, 30, 31, 32, 33, 34, 35, 36, 37, 38, 39, 40, 41, 42, 43, 44, 45, 46, 47, 48, 49, 50, 51, 52, 53, 54, 55, 56, 83, 85, 84, 87, 86, 57, 58, 59, 60, 61, 62, 63, 64, 65, 66, 67, 68, 69, 70, 71, 72, 73, 74, 75, 76, 77, 78, 79, 80, 81, 88] rfl (by decide) rfl (by decide) (by decide) rfl (by decide) rfl hl.1 (Nat.le_of_ble_eq_true rfl) rfl nd_Law_law_1212 ⟨by show _ ≤ 601024; omega, by show _ ≤ 7293034; omega⟩ (fun H locs hP hD hS => ?_)
    refine W.widen (k := 400 + n) (n := 20000 + 6 * n) (by omega) (by omega) ?_
    refine lv_istore (lv' := [(5, .int 0), (4, .int (nI n)), (3, .ref qo), (2, .ref (qm 0)), (1, .ref (qc 0)), (0, .ref b)]) hx hb nd_Law_law_1215 hl (by decide) rfl (fun ls hl => ?_)
    refine lv_aload_n hx hb nd_Law_law_1217 rfl (lv_at hl 3 rfl) ?_
    refine lv_aload_n hx hb nd_Law_law_1218 rfl (lv_at hl 5 rfl) ?_
    refine lv_iload hx hb nd_Law_law_1219 (lv_at hl 1 rfl) ?_
    refine lv_iconst (v := 1) hx hb nd_Law_law_1221 (by decide) ?_
    refine lv_iadd hx hb nd_Law_law_1222 ?_
    refine k_sld (n := n) (j := 1) hx hb hX hbl hbA hS (k_sidx rfl) (by omega) hL nd_Law_law_1223 ?_
    refine k_wVI (wr := k_pick (wA qc qm qo ca I J A L i a l9 R1) [0, 1, 2, 3, 4, 5, 6, 7, 8, 9, 10, 11, 12, 13, 14, 15, 16, 17, 18, 19, 20, 21, 22, 23, 24, 25, 26, 27, 28, 29, 30, 31, 32, 33, 34, 35, 36, 37, 38, 39, 40, 41, 42, 43, 44, 45, 46, 47, 48, 49, 50, 51, 52, 53, 54, 55, 56, 57, 58, 59, 60, 61, 62, 64, 65, 66, 67, 68, 69, 70, 71, 72, 73, 74, 75, 76, 77, 78, 79, 80, 81, 82, 83, 84, 88]) (w2 := wA qc qm qo ca I J A L (va_up i 0 S1) a l9 R1) (As := [.int (xs (n + 1))]) (rest := []) (r := S0) hx hb hml hown hts (cn_Model_corrected l D ca (qm 0) (qm 1) (qm 2) (qm 3) (qm 4) (qm 5) (qm 6) (qm 7) (qm 8) (qm 9) (qm 10) (qm 11) (qm 12) (qm 13) (qm 14) (qm 15) (qm 16) (qm 17) (qm 18) (qm 19) (qm 20) (qm 21) (qm 22) (qm 23) (qm 24) (i 0) (i 1) (i 2) (i 3) (i 4) (i 5) (i 6) (i 7) (a 17) (a 18) (a 19) (xs (n + 1)) S0 S1 e2 _) kc_Model_corrected kv_Model_corrected tt_981 ⟨by decide, by decide⟩ rfl rfl hP hK hD hS hA [63, 85, 86, 87] [0, 1, 2, 3, 4, 5, 6, 7, 8, 9, 10, 11, 12, 13, 14, 15, 16, 17, 18, 19, 20, 21, 22, 23, 24, 25, 26, 27, 28, 29, 30, 31, 32, 33, 34, 35, 36, 37, 38, 39, 40, 41, 42, 43, 44, 45, 46, 47, 48, 49, 50, 51, 52, 53, 54, 55, 56, 57, 58, 59, 60, 61, 62, 64, 65, 66, 67, 68, 69, 70, 71, 72, 73, 74, 75, 76, 77, 78, 79, 80, 81, 82, 83, 84, 88] [0, 1, 2, 3, 4, 5, 6, 7, 8, 9, 10, 11, 12, 13, 14, 15, 16, 17, 18, 19, 20, 21, 22, 23, 24, 25, 26, 27, 28, 29, 30, 31, 32, 33, 34, 35, 36, 37, 38, 39, 40, 41, 42, 43, 44, 45, 46, 47, 48, 49, 50, 51, 52, 53, 54, 55, 56, 57, 58, 59, 60, 61, 62, 85, 63, 64, 65, 66, 67, 68, 69, 70, 71, 72, 73, 74, 75, 76, 77, 78, 79, 80, 81, 82, 83, 86, 87, 88, 84] rfl (by decide) rfl (by decide) (by decide) rfl (by decide) 0 rfl rfl rfl rfl hl.1 (Nat.le_of_ble_eq_true rfl) rfl nd_Law_law_1224 ⟨by show _ ≤ 601024; omega, by show _ ≤ 7293034; omega⟩ (fun H locs hP hD hS => ?_)
    refine lv_istore (lv' := [(6, .int S0), (5, .int 0), (4, .int (nI n)), (3, .ref qo), (2, .ref (qm 0)), (1, .ref (qc 0)), (0, .ref b)]) hx hb nd_Law_law_1227 hl (by decide) rfl (fun ls hl => ?_)
    refine lv_aload_n hx hb nd_Law_law_1229 rfl (lv_at hl 4 rfl) ?_
    refine k_rVI (As := []) (rest := []) (r := S1) hx hb hml hown hts (cn_Model_thrown l D ca (qm 0) (qm 1) (qm 2) (qm 3) (qm 4) (qm 5) (qm 6) (qm 7) (qm 8) (qm 9) (qm 10) (qm 11) (qm 12) (qm 13) (qm 14) (qm 15) (qm 16) (qm 17) (qm 18) (qm 19) (qm 20) (qm 21) (qm 22) (qm 23) (qm 24) ((va_up i 0 S1) 0) ((va_up i 0 S1) 1) ((va_up i 0 S1) 2) ((va_up i 0 S1) 3) ((va_up i 0 S1) 4) ((va_up i 0 S1) 5) ((va_up i 0 S1) 6) ((va_up i 0 S1) 7) S1 rfl) kc_Model_thrown kv_Model_thrown tt_820 ⟨by decide, by decide⟩ rfl rfl hP hK [63] rfl 0 rfl rfl rfl rfl hl.1 (Nat.le_of_ble_eq_true rfl) rfl nd_Law_law_1230 ⟨by show _ ≤ 601024; omega, by show _ ≤ 7293034; omega⟩ ?_
    refine lv_iload hx hb nd_Law_law_1233 (lv_at hl 1 rfl) ?_
    refine lv_icmp_eq (tgt := 1240) hx hb nd_Law_law_1235 (by decide) (fun c1 => ?_) (fun c1 => ?_)
    rotate_left
    · exact absurd et c1
    refine lv_iload hx hb nd_Law_law_1240 (lv_at hl 1 rfl) ?_
    refine lv_if_ne (tgt := 1257) hx hb nd_Law_law_1242 (by decide) (fun c2 => ?_) (fun c2 => ?_)
    · exact absurd rfl c2
    refine lv_aload_n hx hb nd_Law_law_1245 rfl (lv_at hl 3 rfl) ?_
    refine lv_iconst (v := 0) hx hb nd_Law_law_1246 (by decide) ?_
    refine va_lald hx hb hK hP 88 1 rfl rfl (by unfold vp_in; decide) nd_Law_law_1247 ?_
    refine lv_iload hx hb nd_Law_law_1248 (lv_at hl 0 rfl) ?_
    refine lv_i2l hx hb nd_Law_law_1250 rfl ?_
    refine W.lcmp hx hb nd_Law_law_1251 ?_
    refine lv_if_eq (tgt := 1257) hx hb nd_Law_law_1252 (by decide) (fun c3 => ?_) (fun c3 => ?_)
    rotate_left
    · exact absurd ea c3
    refine lv_goto (tgt := 1452) hx hb nd_Law_law_1257 (by decide) ?_
    refine W.widen (k := 400 + n + 1) (n := 20000 + 6 * n + 6) (by omega) (by omega) ?_
    exact hnext _ _ _ _ _ _ _ _ _ _ _ hRel hP hD hS (lv_sub hl [2, 3, 4, 5, 6] rfl)
  ·
    refine lv_aload_n hx hb nd_Law_law_1204 rfl (lv_at hl 3 rfl) ?_
    refine lv_aload_n hx hb nd_Law_law_1205 rfl (lv_at hl 4 rfl) ?_
    refine lv_iload hx hb nd_Law_law_1206 (lv_at hl 0 rfl) ?_
    refine lv_iconst (v := 1) hx hb nd_Law_law_1208 (by decide) ?_
    refine lv_iadd hx hb nd_Law_law_1209 ?_
    refine k_sld (n := n) (j := 1) hx hb hX hbl hbA hS (k_sidx rfl) (by omega) hL nd_Law_law_1210 ?_
    refine lv_aload_n hx hb nd_Law_law_1211 rfl (lv_at hl 1 rfl) ?_
    refine k_wSWX (wr := k_pick (wA qc qm qo ca I J A L i a l9 o) [1, 2, 3, 4, 5, 6, 7, 8, 9, 10, 11, 12, 13, 14, 15, 16, 17, 18, 19, 20, 21, 22, 23, 24, 25, 26, 27, 28, 29, 30, 31, 32, 33, 34, 35, 36, 37, 38, 39, 40, 41, 42, 43, 44, 45, 46, 47, 48, 49, 50, 51, 52, 53, 54, 55, 56, 57, 63, 64, 65, 66, 67, 68, 69, 70, 71, 72, 73, 74, 75, 76, 77, 78, 79, 80, 81, 82, 83, 84, 85, 86, 87]) (w2 := wA qc qm qo ca I J A L i a l9 o) (As := [.ref (qc 0), .int (xs (n + 1)), .ref qo]) (rest := []) (r := 1) hx hb hml hown hts (hx_Law_corrected_1 l hlt D ca (qc 0) (qc 1) (qc 19) (qc 34) (qc 47) (qc 48) (qc 58) (qc 59) (qc 60) (qc 61) (qc 62) qo (I 0) (I 15) (A 34) (A 33) (A 36) (A 35) o (xs (n + 1)) e1 _) kc_Law_corrected ks_Law_corrected tt_628 ⟨by decide, by decide⟩ rfl rfl hP hK hD hS hA hev [0, 58, 60, 59, 62, 61, 88] [1, 2, 3, 4, 5, 6, 7, 8, 9, 10, 11, 12, 13, 14, 15, 16, 17, 18, 19, 20, 21, 22, 23, 24, 25, 26, 27, 28, 29, 30, 31, 32, 33, 34, 35, 36, 37, 38, 39, 40, 41, 42, 43, 44, 45, 46, 47, 48, 49, 50, 51, 52, 53, 54, 55, 56, 57, 63, 64, 65, 66, 67, 68, 69, 70, 71, 72, 73, 74, 75, 76, 77, 78, 79, 80, 81, 82, 83, 84, 85, 86, 87] [82, 0, 1, 2, 3, 4, 5, 6, 7, 8, 9, 10, 11, 12, 13, 14, 15, 16, 17, 18, 19, 20, 21, 22, 23, 24, 25, 26, 27, 28, 29, 30, 31, 32, 33, 34, 35, 36, 37, 38, 39, 40, 41, 42, 43, 44, 45, 46, 47, 48, 49, 50, 51, 52, 53, 54, 55, 56, 83, 85, 84, 87, 86, 57, 58, 59, 60, 61, 62, 63, 64, 65, 66, 67, 68, 69, 70, 71, 72, 73, 74, 75, 76, 77, 78, 79, 80, 81, 88] rfl (by decide) rfl (by decide) (by decide) rfl (by decide) rfl hl.1 (Nat.le_of_ble_eq_true rfl) rfl nd_Law_law_1212 ⟨by show _ ≤ 601024; omega, by show _ ≤ 7293034; omega⟩ (fun H locs hP hD hS => ?_)
    refine W.widen (k := 400 + n + 1) (n := 20000 + 6 * n + 6) (by omega) (by omega) ?_
    refine lv_istore (lv' := [(5, .int 1), (4, .int (nI n)), (3, .ref qo), (2, .ref (qm 0)), (1, .ref (qc 0)), (0, .ref b)]) hx hb nd_Law_law_1215 hl (by decide) rfl (fun ls hl => ?_)
    refine lv_aload_n hx hb nd_Law_law_1217 rfl (lv_at hl 3 rfl) ?_
    refine lv_aload_n hx hb nd_Law_law_1218 rfl (lv_at hl 5 rfl) ?_
    refine lv_iload hx hb nd_Law_law_1219 (lv_at hl 1 rfl) ?_
    refine lv_iconst (v := 1) hx hb nd_Law_law_1221 (by decide) ?_
    refine lv_iadd hx hb nd_Law_law_1222 ?_
    refine k_sld (n := n) (j := 1) hx hb hX hbl hbA hS (k_sidx rfl) (by omega) hL nd_Law_law_1223 ?_
    refine k_wVI (wr := k_pick (wA qc qm qo ca I J A L i a l9 o) [0, 1, 2, 3, 4, 5, 6, 7, 8, 9, 10, 11, 12, 13, 14, 15, 16, 17, 18, 19, 20, 21, 22, 23, 24, 25, 26, 27, 28, 29, 30, 31, 32, 33, 34, 35, 36, 37, 38, 39, 40, 41, 42, 43, 44, 45, 46, 47, 48, 49, 50, 51, 52, 53, 54, 55, 56, 57, 58, 59, 60, 61, 62, 64, 65, 66, 67, 68, 69, 70, 71, 72, 73, 74, 75, 76, 77, 78, 79, 80, 81, 82, 83, 84, 88]) (w2 := wA qc qm qo ca I J A L (va_up i 0 S1) a l9 o) (As := [.int (xs (n + 1))]) (rest := []) (r := S0) hx hb hml hown hts (cn_Model_corrected l D ca (qm 0) (qm 1) (qm 2) (qm 3) (qm 4) (qm 5) (qm 6) (qm 7) (qm 8) (qm 9) (qm 10) (qm 11) (qm 12) (qm 13) (qm 14) (qm 15) (qm 16) (qm 17) (qm 18) (qm 19) (qm 20) (qm 21) (qm 22) (qm 23) (qm 24) (i 0) (i 1) (i 2) (i 3) (i 4) (i 5) (i 6) (i 7) (a 17) (a 18) (a 19) (xs (n + 1)) S0 S1 e2 _) kc_Model_corrected kv_Model_corrected tt_981 ⟨by decide, by decide⟩ rfl rfl hP hK hD hS hA [63, 85, 86, 87] [0, 1, 2, 3, 4, 5, 6, 7, 8, 9, 10, 11, 12, 13, 14, 15, 16, 17, 18, 19, 20, 21, 22, 23, 24, 25, 26, 27, 28, 29, 30, 31, 32, 33, 34, 35, 36, 37, 38, 39, 40, 41, 42, 43, 44, 45, 46, 47, 48, 49, 50, 51, 52, 53, 54, 55, 56, 57, 58, 59, 60, 61, 62, 64, 65, 66, 67, 68, 69, 70, 71, 72, 73, 74, 75, 76, 77, 78, 79, 80, 81, 82, 83, 84, 88] [0, 1, 2, 3, 4, 5, 6, 7, 8, 9, 10, 11, 12, 13, 14, 15, 16, 17, 18, 19, 20, 21, 22, 23, 24, 25, 26, 27, 28, 29, 30, 31, 32, 33, 34, 35, 36, 37, 38, 39, 40, 41, 42, 43, 44, 45, 46, 47, 48, 49, 50, 51, 52, 53, 54, 55, 56, 57, 58, 59, 60, 61, 62, 85, 63, 64, 65, 66, 67, 68, 69, 70, 71, 72, 73, 74, 75, 76, 77, 78, 79, 80, 81, 82, 83, 86, 87, 88, 84] rfl (by decide) rfl (by decide) (by decide) rfl (by decide) 0 rfl rfl rfl rfl hl.1 (Nat.le_of_ble_eq_true rfl) rfl nd_Law_law_1224 ⟨by show _ ≤ 601024; omega, by show _ ≤ 7293034; omega⟩ (fun H locs hP hD hS => ?_)
    refine lv_istore (lv' := [(6, .int S0), (5, .int 1), (4, .int (nI n)), (3, .ref qo), (2, .ref (qm 0)), (1, .ref (qc 0)), (0, .ref b)]) hx hb nd_Law_law_1227 hl (by decide) rfl (fun ls hl => ?_)
    refine lv_aload_n hx hb nd_Law_law_1229 rfl (lv_at hl 4 rfl) ?_
    refine k_rVI (As := []) (rest := []) (r := S1) hx hb hml hown hts (cn_Model_thrown l D ca (qm 0) (qm 1) (qm 2) (qm 3) (qm 4) (qm 5) (qm 6) (qm 7) (qm 8) (qm 9) (qm 10) (qm 11) (qm 12) (qm 13) (qm 14) (qm 15) (qm 16) (qm 17) (qm 18) (qm 19) (qm 20) (qm 21) (qm 22) (qm 23) (qm 24) ((va_up i 0 S1) 0) ((va_up i 0 S1) 1) ((va_up i 0 S1) 2) ((va_up i 0 S1) 3) ((va_up i 0 S1) 4) ((va_up i 0 S1) 5) ((va_up i 0 S1) 6) ((va_up i 0 S1) 7) S1 rfl) kc_Model_thrown kv_Model_thrown tt_820 ⟨by decide, by decide⟩ rfl rfl hP hK [63] rfl 0 rfl rfl rfl rfl hl.1 (Nat.le_of_ble_eq_true rfl) rfl nd_Law_law_1230 ⟨by show _ ≤ 601024; omega, by show _ ≤ 7293034; omega⟩ ?_
    refine lv_iload hx hb nd_Law_law_1233 (lv_at hl 1 rfl) ?_
    refine lv_icmp_eq (tgt := 1240) hx hb nd_Law_law_1235 (by decide) (fun c4 => ?_) (fun c4 => ?_)
    rotate_left
    · exact absurd et c4
    refine lv_iload hx hb nd_Law_law_1240 (lv_at hl 1 rfl) ?_
    refine lv_if_ne (tgt := 1257) hx hb nd_Law_law_1242 (by decide) (fun c5 => ?_) (fun c5 => ?_)
    rotate_left
    · exact absurd c5 (by decide)
    refine lv_goto (tgt := 1452) hx hb nd_Law_law_1257 (by decide) ?_
    refine W.widen (k := 400 + n + 1) (n := 20000 + 6 * n + 6) (by omega) (by omega) ?_
    exact hnext _ _ _ _ _ _ _ _ _ _ _ hRel hP hD hS (lv_sub hl [2, 3, 4, 5, 6] rfl)
set_option maxHeartbeats 8000000 in
set_option maxRecDepth 100000 in
theorem lc_silent {p : Program} {l : Launch} {e : Env} {s : State} {m : MethodId} {below : List Frame} {meth : Method} {c : Code} {D : va_G} {ca : Nat → ClassId} {b Ls : Nat} {xs : Nat → Int32} (C0 : lw_At p s m meth c b Ls xs) (hL : Ls ≤ 2560) (hlt : l.stackTraces = false) (hev0 : xt_ev s s.heap) (hK : va_K D vwCl (tyG ca) s) {Rel : (Nat → Int32) → (Nat → Int64) → (Nat → Nat → Int32) → (Nat → Nat → Int64) → (Nat → Int32) → (Nat → Nat → Int32) → (Nat → Nat → Int64) → Prop} {qc qm : Nat → Nat} {qo : Nat} {I : Nat → Int32} {J : Nat → Int64} {A : Nat → Nat → Int32} {L : Nat → Nat → Int64} {i : Nat → Int32} {a : Nat → Nat → Int32} {l9 : Nat → Nat → Int64} {o : Nat → Int64} {n : Nat} (hn : n + 5 ≤ Ls) {H : Heap} {locs : List Loc} {ls : Array Slot} (hP : va_P D vwCl (wA qc qm qo ca I J A L i a l9 o) H) (hD : va_D (fun q : Nat => s.heap.size ≤ q) (wA qc qm qo ca I J A L i a l9 o)) (hS : va_S (fun q : Nat => s.heap.size ≤ q) s.heap H locs) (hl : lv_has ls 8 [(4, .int (nI n)), (3, .ref qo), (2, .ref (qm 0)), (1, .ref (qc 0)), (0, .ref b)]) (hst : st_silent Rel I J A L i a l9 o (xs (n + 1))) (hnext : ∀ (I : Nat → Int32) (J : Nat → Int64) (A : Nat → Nat → Int32) (L : Nat → Nat → Int64) (i : Nat → Int32) (a : Nat → Nat → Int32) (l9 : Nat → Nat → Int64) (o : Nat → Int64) (H : Heap) (locs : List Loc) (ls : Array Slot), Rel I J A L i a l9 → va_P D vwCl (wA qc qm qo ca I J A L i a l9 o) H → va_D (fun q : Nat => s.heap.size ≤ q) (wA qc qm qo ca I J A L i a l9 o) → va_S (fun q : Nat => s.heap.size ≤ q) s.heap H locs → lv_has ls 8 [(4, .int (nI n)), (3, .ref qo), (2, .ref (qm 0)), (1, .ref (qc 0)), (0, .ref b)] → W p l e room_1 s m #[Value.ref b] below meth c H locs (400 + n + 1) (20000 + 6 * n + 6) (lw_Z below #[Value.ref b] s) (F0 m 1452 ls [])) : W p l e room_1 s m #[Value.ref b] below meth c H locs (400 + n) (20000 + 6 * n) (lw_Z below #[Value.ref b] s) (F0 m 1260 ls []) := by
  obtain ⟨hx, hb, hr, hml, hown, hts0, hX, hbl, hlocks, hgv⟩ := C0
  have hts : ∀ w ∈ TT, w.before #[Value.ref b] s = true := fun w h => hts0 w (List.mem_filter.mp h).1
  have hA : ∀ q : Nat, s.heap.size ≤ q → (fun q : Nat => s.heap.size ≤ q) q := fun _ h => h
  have hbA : ¬ (fun q : Nat => s.heap.size ≤ q) b := Nat.not_le.mpr hbl
  have hown : s.vm.findClass nR_Law = some m.cls := hown
  have hev : xt_ev s H := k_evH hev0 hS
  unfold st_silent at hst
  rcases hst with ⟨R1, S0, S1, e1, e2, et, ea, hRel⟩ | ⟨S0, S1, e1, e2, et, hRel⟩
  ·
    refine lv_aload_n hx hb nd_Law_law_1260 rfl (lv_at hl 3 rfl) ?_
    refine lv_aload_n hx hb nd_Law_law_1261 rfl (lv_at hl 4 rfl) ?_
    refine lv_iload hx hb nd_Law_law_1262 (lv_at hl 0 rfl) ?_
    refine lv_iconst (v := 1) hx hb nd_Law_law_1264 (by decide) ?_
    refine lv_iadd hx hb nd_Law_law_1265 ?_
    refine k_sld (n := n) (j := 1) hx hb hX hbl hbA hS (k_sidx rfl) (by omega) hL nd_Law_law_1266 ?_
    refine lv_aload_n hx hb nd_Law_law_1267 rfl (lv_at hl 1 rfl) ?_
    refine k_wSWI (wr := k_pick (wA qc qm qo ca I J A L i a l9 o) [1, 2, 3, 4, 5, 6, 7, 8, 9, 10, 11, 12, 13, 14, 15, 16, 17, 18, 19, 20, 21, 22, 23, 24, 25, 26, 27, 28, 29, 30, 31, 32, 33, 34, 35, 36, 37, 38, 39, 40, 41, 42, 43, 44, 45, 46, 47, 48, 49, 50, 51, 52, 53, 54, 55, 56, 57, 59, 61, 62, 63, 64, 65, 66, 67, 68, 69, 70, 71, 72, 73, 74, 75, 76, 77, 78, 79, 80, 81, 82, 83, 84, 85, 86, 87]) (w2 := wA qc qm qo ca I J A L i a l9 R1) (As := [.ref (qc 0), .int (xs (n + 1)), .ref qo]) (rest := []) (r := 0) hx hb hml hown hts (cn_Law_silent l D ca (qc 0) (qc 1) (qc 19) (qc 34) (qc 47) (qc 48) (qc 58) (qc 59) (qc 60) (qc 61) (qc 62) qo (I 0) (I 15) (A 34) o (xs (n + 1)) (0 : Int32) R1 e1 _) kc_Law_silent ks_Law_silent tt_653 ⟨by decide, by decide⟩ rfl rfl hP hK hD hS hA [0, 58, 60, 88] [1, 2, 3, 4, 5, 6, 7, 8, 9, 10, 11, 12, 13, 14, 15, 16, 17, 18, 19, 20, 21, 22, 23, 24, 25, 26, 27, 28, 29, 30, 31, 32, 33, 34, 35, 36, 37, 38, 39, 40, 41, 42, 43, 44, 45, 46, 47, 48, 49, 50, 51, 52, 53, 54, 55, 56, 57, 59, 61, 62, 63, 64, 65, 66, 67, 68, 69, 70, 71, 72, 73, 74, 75, 76, 77, 78, 79, 80, 81, 82, 83, 84, 85, 86, 87] [85, 0, 1, 2, 3, 4, 5, 6, 7, 8, 9, 10, 11, 12, 13, 14, 15, 16, 17, 18, 19, 20, 21, 22, 23, 24, 25, 26, 27, 28, 29, 30, 31, 32, 33, 34, 35, 36, 37, 38, 39, 40, 41, 42, 43, 44, 45, 46, 47, 48, 49, 50, 51, 52, 53, 54, 55, 56, 86, 57, 87, 58, 59, 60, 61, 62, 63, 64, 65, 66, 67, 68, 69, 70, 71, 72, 73, 74, 75, 76, 77, 78, 79, 80, 81, 82, 83, 84, 88] rfl (by decide) rfl (by decide) (by decide) rfl (by decide) rfl hl.1 (Nat.le_of_ble_eq_true rfl) rfl nd_Law_law_1268 ⟨by show _ ≤ 601024; omega, by show _ ≤ 7293034; omega⟩ (fun H locs hP hD hS => ?_)
    refine W.widen (k := 400 + n) (n := 20000 + 6 * n) (by omega) (by omega) ?_
    refine lv_istore (lv' := [(5, .int 0), (4, .int (nI n)), (3, .ref qo), (2, .ref (qm 0)), (1, .ref (qc 0)), (0, .ref b)]) hx hb nd_Law_law_1271 hl (by decide) rfl (fun ls hl => ?_)
    refine lv_aload_n hx hb nd_Law_law_1273 rfl (lv_at hl 3 rfl) ?_
    refine lv_aload_n hx hb nd_Law_law_1274 rfl (lv_at hl 5 rfl) ?_
    refine lv_iload hx hb nd_Law_law_1275 (lv_at hl 1 rfl) ?_
    refine lv_iconst (v := 1) hx hb nd_Law_law_1277 (by decide) ?_
    refine lv_iadd hx hb nd_Law_law_1278 ?_
    refine k_sld (n := n) (j := 1) hx hb hX hbl hbA hS (k_sidx rfl) (by omega) hL nd_Law_law_1279 ?_
    refine k_wVI (wr := k_pick (wA qc qm qo ca I J A L i a l9 R1) [0, 1, 2, 3, 4, 5, 6, 7, 8, 9, 10, 11, 12, 13, 14, 15, 16, 17, 18, 19, 20, 21, 22, 23, 24, 25, 26, 27, 28, 29, 30, 31, 32, 33, 34, 35, 36, 37, 38, 39, 40, 41, 42, 43, 44, 45, 46, 47, 48, 49, 50, 51, 52, 53, 54, 55, 56, 57, 58, 59, 60, 61, 62, 64, 65, 66, 67, 68, 69, 70, 71, 72, 73, 74, 75, 76, 77, 78, 79, 80, 81, 82, 83, 84, 86, 87, 88]) (w2 := wA qc qm qo ca I J A L (va_up i 0 S1) a l9 R1) (As := [.int (xs (n + 1))]) (rest := []) (r := S0) hx hb hml hown hts (cn_Model_silent l D ca (qm 0) (qm 1) (qm 2) (qm 3) (qm 4) (qm 5) (qm 6) (qm 7) (qm 8) (qm 9) (qm 10) (qm 11) (qm 12) (qm 13) (qm 14) (qm 15) (qm 16) (qm 17) (qm 18) (qm 19) (qm 20) (qm 21) (qm 22) (qm 23) (qm 24) (i 0) (i 1) (i 2) (i 3) (i 4) (i 5) (i 6) (i 7) (a 17) (xs (n + 1)) S0 S1 e2 _) kc_Model_silent kv_Model_silent tt_985 ⟨by decide, by decide⟩ rfl rfl hP hK hD hS hA [63, 85] [0, 1, 2, 3, 4, 5, 6, 7, 8, 9, 10, 11, 12, 13, 14, 15, 16, 17, 18, 19, 20, 21, 22, 23, 24, 25, 26, 27, 28, 29, 30, 31, 32, 33, 34, 35, 36, 37, 38, 39, 40, 41, 42, 43, 44, 45, 46, 47, 48, 49, 50, 51, 52, 53, 54, 55, 56, 57, 58, 59, 60, 61, 62, 64, 65, 66, 67, 68, 69, 70, 71, 72, 73, 74, 75, 76, 77, 78, 79, 80, 81, 82, 83, 84, 86, 87, 88] [0, 1, 2, 3, 4, 5, 6, 7, 8, 9, 10, 11, 12, 13, 14, 15, 16, 17, 18, 19, 20, 21, 22, 23, 24, 25, 26, 27, 28, 29, 30, 31, 32, 33, 34, 35, 36, 37, 38, 39, 40, 41, 42, 43, 44, 45, 46, 47, 48, 49, 50, 51, 52, 53, 54, 55, 56, 57, 58, 59, 60, 61, 62, 87, 63, 64, 65, 66, 67, 68, 69, 70, 71, 72, 73, 74, 75, 76, 77, 78, 79, 80, 81, 82, 83, 88, 84, 85, 86] rfl (by decide) rfl (by decide) (by decide) rfl (by decide) 0 rfl rfl rfl rfl hl.1 (Nat.le_of_ble_eq_true rfl) rfl nd_Law_law_1280 ⟨by show _ ≤ 601024; omega, by show _ ≤ 7293034; omega⟩ (fun H locs hP hD hS => ?_)
    refine lv_istore (lv' := [(6, .int S0), (5, .int 0), (4, .int (nI n)), (3, .ref qo), (2, .ref (qm 0)), (1, .ref (qc 0)), (0, .ref b)]) hx hb nd_Law_law_1283 hl (by decide) rfl (fun ls hl => ?_)
    refine lv_aload_n hx hb nd_Law_law_1285 rfl (lv_at hl 4 rfl) ?_
    refine k_rVI (As := []) (rest := []) (r := S1) hx hb hml hown hts (cn_Model_thrown l D ca (qm 0) (qm 1) (qm 2) (qm 3) (qm 4) (qm 5) (qm 6) (qm 7) (qm 8) (qm 9) (qm 10) (qm 11) (qm 12) (qm 13) (qm 14) (qm 15) (qm 16) (qm 17) (qm 18) (qm 19) (qm 20) (qm 21) (qm 22) (qm 23) (qm 24) ((va_up i 0 S1) 0) ((va_up i 0 S1) 1) ((va_up i 0 S1) 2) ((va_up i 0 S1) 3) ((va_up i 0 S1) 4) ((va_up i 0 S1) 5) ((va_up i 0 S1) 6) ((va_up i 0 S1) 7) S1 rfl) kc_Model_thrown kv_Model_thrown tt_820 ⟨by decide, by decide⟩ rfl rfl hP hK [63] rfl 0 rfl rfl rfl rfl hl.1 (Nat.le_of_ble_eq_true rfl) rfl nd_Law_law_1286 ⟨by show _ ≤ 601024; omega, by show _ ≤ 7293034; omega⟩ ?_
    refine lv_iload hx hb nd_Law_law_1289 (lv_at hl 1 rfl) ?_
    refine lv_icmp_eq (tgt := 1296) hx hb nd_Law_law_1291 (by decide) (fun c1 => ?_) (fun c1 => ?_)
    rotate_left
    · exact absurd et c1
    refine lv_iload hx hb nd_Law_law_1296 (lv_at hl 1 rfl) ?_
    refine lv_if_ne (tgt := 1313) hx hb nd_Law_law_1298 (by decide) (fun c2 => ?_) (fun c2 => ?_)
    · exact absurd rfl c2
    refine lv_aload_n hx hb nd_Law_law_1301 rfl (lv_at hl 3 rfl) ?_
    refine lv_iconst (v := 0) hx hb nd_Law_law_1302 (by decide) ?_
    refine va_lald hx hb hK hP 88 1 rfl rfl (by unfold vp_in; decide) nd_Law_law_1303 ?_
    refine lv_iload hx hb nd_Law_law_1304 (lv_at hl 0 rfl) ?_
    refine lv_i2l hx hb nd_Law_law_1306 rfl ?_
    refine W.lcmp hx hb nd_Law_law_1307 ?_
    refine lv_if_eq (tgt := 1313) hx hb nd_Law_law_1308 (by decide) (fun c3 => ?_) (fun c3 => ?_)
    rotate_left
    · exact absurd ea c3
    refine lv_goto (tgt := 1452) hx hb nd_Law_law_1313 (by decide) ?_
    refine W.widen (k := 400 + n + 1) (n := 20000 + 6 * n + 6) (by omega) (by omega) ?_
    exact hnext _ _ _ _ _ _ _ _ _ _ _ hRel hP hD hS (lv_sub hl [2, 3, 4, 5, 6] rfl)
  ·
    refine lv_aload_n hx hb nd_Law_law_1260 rfl (lv_at hl 3 rfl) ?_
    refine lv_aload_n hx hb nd_Law_law_1261 rfl (lv_at hl 4 rfl) ?_
    refine lv_iload hx hb nd_Law_law_1262 (lv_at hl 0 rfl) ?_
    refine lv_iconst (v := 1) hx hb nd_Law_law_1264 (by decide) ?_
    refine lv_iadd hx hb nd_Law_law_1265 ?_
    refine k_sld (n := n) (j := 1) hx hb hX hbl hbA hS (k_sidx rfl) (by omega) hL nd_Law_law_1266 ?_
    refine lv_aload_n hx hb nd_Law_law_1267 rfl (lv_at hl 1 rfl) ?_
    refine k_wSWX (wr := k_pick (wA qc qm qo ca I J A L i a l9 o) [1, 2, 3, 4, 5, 6, 7, 8, 9, 10, 11, 12, 13, 14, 15, 16, 17, 18, 19, 20, 21, 22, 23, 24, 25, 26, 27, 28, 29, 30, 31, 32, 33, 34, 35, 36, 37, 38, 39, 40, 41, 42, 43, 44, 45, 46, 47, 48, 49, 50, 51, 52, 53, 54, 55, 56, 57, 59, 61, 62, 63, 64, 65, 66, 67, 68, 69, 70, 71, 72, 73, 74, 75, 76, 77, 78, 79, 80, 81, 82, 83, 84, 85, 86, 87]) (w2 := wA qc qm qo ca I J A L i a l9 o) (As := [.ref (qc 0), .int (xs (n + 1)), .ref qo]) (rest := []) (r := 1) hx hb hml hown hts (hx_Law_silent_1 l hlt D ca (qc 0) (qc 1) (qc 19) (qc 34) (qc 47) (qc 48) (qc 58) (qc 59) (qc 60) (qc 61) (qc 62) qo (I 0) (I 15) (A 34) o (xs (n + 1)) e1 _) kc_Law_silent ks_Law_silent tt_653 ⟨by decide, by decide⟩ rfl rfl hP hK hD hS hA hev [0, 58, 60, 88] [1, 2, 3, 4, 5, 6, 7, 8, 9, 10, 11, 12, 13, 14, 15, 16, 17, 18, 19, 20, 21, 22, 23, 24, 25, 26, 27, 28, 29, 30, 31, 32, 33, 34, 35, 36, 37, 38, 39, 40, 41, 42, 43, 44, 45, 46, 47, 48, 49, 50, 51, 52, 53, 54, 55, 56, 57, 59, 61, 62, 63, 64, 65, 66, 67, 68, 69, 70, 71, 72, 73, 74, 75, 76, 77, 78, 79, 80, 81, 82, 83, 84, 85, 86, 87] [85, 0, 1, 2, 3, 4, 5, 6, 7, 8, 9, 10, 11, 12, 13, 14, 15, 16, 17, 18, 19, 20, 21, 22, 23, 24, 25, 26, 27, 28, 29, 30, 31, 32, 33, 34, 35, 36, 37, 38, 39, 40, 41, 42, 43, 44, 45, 46, 47, 48, 49, 50, 51, 52, 53, 54, 55, 56, 86, 57, 87, 58, 59, 60, 61, 62, 63, 64, 65, 66, 67, 68, 69, 70, 71, 72, 73, 74, 75, 76, 77, 78, 79, 80, 81, 82, 83, 84, 88] rfl (by decide) rfl (by decide) (by decide) rfl (by decide) rfl hl.1 (Nat.le_of_ble_eq_true rfl) rfl nd_Law_law_1268 ⟨by show _ ≤ 601024; omega, by show _ ≤ 7293034; omega⟩ (fun H locs hP hD hS => ?_)
    refine W.widen (k := 400 + n + 1) (n := 20000 + 6 * n + 6) (by omega) (by omega) ?_
    refine lv_istore (lv' := [(5, .int 1), (4, .int (nI n)), (3, .ref qo), (2, .ref (qm 0)), (1, .ref (qc 0)), (0, .ref b)]) hx hb nd_Law_law_1271 hl (by decide) rfl (fun ls hl => ?_)
    refine lv_aload_n hx hb nd_Law_law_1273 rfl (lv_at hl 3 rfl) ?_
    refine lv_aload_n hx hb nd_Law_law_1274 rfl (lv_at hl 5 rfl) ?_
    refine lv_iload hx hb nd_Law_law_1275 (lv_at hl 1 rfl) ?_
    refine lv_iconst (v := 1) hx hb nd_Law_law_1277 (by decide) ?_
    refine lv_iadd hx hb nd_Law_law_1278 ?_
    refine k_sld (n := n) (j := 1) hx hb hX hbl hbA hS (k_sidx rfl) (by omega) hL nd_Law_law_1279 ?_
    refine k_wVI (wr := k_pick (wA qc qm qo ca I J A L i a l9 o) [0, 1, 2, 3, 4, 5, 6, 7, 8, 9, 10, 11, 12, 13, 14, 15, 16, 17, 18, 19, 20, 21, 22, 23, 24, 25, 26, 27, 28, 29, 30, 31, 32, 33, 34, 35, 36, 37, 38, 39, 40, 41, 42, 43, 44, 45, 46, 47, 48, 49, 50, 51, 52, 53, 54, 55, 56, 57, 58, 59, 60, 61, 62, 64, 65, 66, 67, 68, 69, 70, 71, 72, 73, 74, 75, 76, 77, 78, 79, 80, 81, 82, 83, 84, 86, 87, 88]) (w2 := wA qc qm qo ca I J A L (va_up i 0 S1) a l9 o) (As := [.int (xs (n + 1))]) (rest := []) (r := S0) hx hb hml hown hts (cn_Model_silent l D ca (qm 0) (qm 1) (qm 2) (qm 3) (qm 4) (qm 5) (qm 6) (qm 7) (qm 8) (qm 9) (qm 10) (qm 11) (qm 12) (qm 13) (qm 14) (qm 15) (qm 16) (qm 17) (qm 18) (qm 19) (qm 20) (qm 21) (qm 22) (qm 23) (qm 24) (i 0) (i 1) (i 2) (i 3) (i 4) (i 5) (i 6) (i 7) (a 17) (xs (n + 1)) S0 S1 e2 _) kc_Model_silent kv_Model_silent tt_985 ⟨by decide, by decide⟩ rfl rfl hP hK hD hS hA [63, 85] [0, 1, 2, 3, 4, 5, 6, 7, 8, 9, 10, 11, 12, 13, 14, 15, 16, 17, 18, 19, 20, 21, 22, 23, 24, 25, 26, 27, 28, 29, 30, 31, 32, 33, 34, 35, 36, 37, 38, 39, 40, 41, 42, 43, 44, 45, 46, 47, 48, 49, 50, 51, 52, 53, 54, 55, 56, 57, 58, 59, 60, 61, 62, 64, 65, 66, 67, 68, 69, 70, 71, 72, 73, 74, 75, 76, 77, 78, 79, 80, 81, 82, 83, 84, 86, 87, 88] [0, 1, 2, 3, 4, 5, 6, 7, 8, 9, 10, 11, 12, 13, 14, 15, 16, 17, 18, 19, 20, 21, 22, 23, 24, 25, 26, 27, 28, 29, 30, 31, 32, 33, 34, 35, 36, 37, 38, 39, 40, 41, 42, 43, 44, 45, 46, 47, 48, 49, 50, 51, 52, 53, 54, 55, 56, 57, 58, 59, 60, 61, 62, 87, 63, 64, 65, 66, 67, 68, 69, 70, 71, 72, 73, 74, 75, 76, 77, 78, 79, 80, 81, 82, 83, 88, 84, 85, 86] rfl (by decide) rfl (by decide) (by decide) rfl (by decide) 0 rfl rfl rfl rfl hl.1 (Nat.le_of_ble_eq_true rfl) rfl nd_Law_law_1280 ⟨by show _ ≤ 601024; omega, by show _ ≤ 7293034; omega⟩ (fun H locs hP hD hS => ?_)
    refine lv_istore (lv' := [(6, .int S0), (5, .int 1), (4, .int (nI n)), (3, .ref qo), (2, .ref (qm 0)), (1, .ref (qc 0)), (0, .ref b)]) hx hb nd_Law_law_1283 hl (by decide) rfl (fun ls hl => ?_)
    refine lv_aload_n hx hb nd_Law_law_1285 rfl (lv_at hl 4 rfl) ?_
    refine k_rVI (As := []) (rest := []) (r := S1) hx hb hml hown hts (cn_Model_thrown l D ca (qm 0) (qm 1) (qm 2) (qm 3) (qm 4) (qm 5) (qm 6) (qm 7) (qm 8) (qm 9) (qm 10) (qm 11) (qm 12) (qm 13) (qm 14) (qm 15) (qm 16) (qm 17) (qm 18) (qm 19) (qm 20) (qm 21) (qm 22) (qm 23) (qm 24) ((va_up i 0 S1) 0) ((va_up i 0 S1) 1) ((va_up i 0 S1) 2) ((va_up i 0 S1) 3) ((va_up i 0 S1) 4) ((va_up i 0 S1) 5) ((va_up i 0 S1) 6) ((va_up i 0 S1) 7) S1 rfl) kc_Model_thrown kv_Model_thrown tt_820 ⟨by decide, by decide⟩ rfl rfl hP hK [63] rfl 0 rfl rfl rfl rfl hl.1 (Nat.le_of_ble_eq_true rfl) rfl nd_Law_law_1286 ⟨by show _ ≤ 601024; omega, by show _ ≤ 7293034; omega⟩ ?_
    refine lv_iload hx hb nd_Law_law_1289 (lv_at hl 1 rfl) ?_
    refine lv_icmp_eq (tgt := 1296) hx hb nd_Law_law_1291 (by decide) (fun c4 => ?_) (fun c4 => ?_)
    rotate_left
    · exact absurd et c4
    refine lv_iload hx hb nd_Law_law_1296 (lv_at hl 1 rfl) ?_
    refine lv_if_ne (tgt := 1313) hx hb nd_Law_law_1298 (by decide) (fun c5 => ?_) (fun c5 => ?_)
    rotate_left
    · exact absurd c5 (by decide)
    refine lv_goto (tgt := 1452) hx hb nd_Law_law_1313 (by decide) ?_
    refine W.widen (k := 400 + n + 1) (n := 20000 + 6 * n + 6) (by omega) (by omega) ?_
    exact hnext _ _ _ _ _ _ _ _ _ _ _ hRel hP hD hS (lv_sub hl [2, 3, 4, 5, 6] rfl)
set_option maxHeartbeats 8000000 in
set_option maxRecDepth 100000 in
theorem lc_plan {p : Program} {l : Launch} {e : Env} {s : State} {m : MethodId} {below : List Frame} {meth : Method} {c : Code} {D : va_G} {ca : Nat → ClassId} {b Ls : Nat} {xs : Nat → Int32} (C0 : lw_At p s m meth c b Ls xs) (hL : Ls ≤ 2560) (hlt : l.stackTraces = false) (hev0 : xt_ev s s.heap) (hK : va_K D vwCl (tyG ca) s) {Rel : (Nat → Int32) → (Nat → Int64) → (Nat → Nat → Int32) → (Nat → Nat → Int64) → (Nat → Int32) → (Nat → Nat → Int32) → (Nat → Nat → Int64) → Prop} {qc qm : Nat → Nat} {qo : Nat} {I : Nat → Int32} {J : Nat → Int64} {A : Nat → Nat → Int32} {L : Nat → Nat → Int64} {i : Nat → Int32} {a : Nat → Nat → Int32} {l9 : Nat → Nat → Int64} {o : Nat → Int64} {n : Nat} (hn : n + 5 ≤ Ls) {H : Heap} {locs : List Loc} {ls : Array Slot} (hP : va_P D vwCl (wA qc qm qo ca I J A L i a l9 o) H) (hD : va_D (fun q : Nat => s.heap.size ≤ q) (wA qc qm qo ca I J A L i a l9 o)) (hS : va_S (fun q : Nat => s.heap.size ≤ q) s.heap H locs) (hl : lv_has ls 8 [(4, .int (nI n)), (3, .ref qo), (2, .ref (qm 0)), (1, .ref (qc 0)), (0, .ref b)]) (hst : st_plan Rel I J A L i a l9 o (xs (n + 1)) (xs (n + 2)) (xs (n + 3))) (hnext : ∀ (I : Nat → Int32) (J : Nat → Int64) (A : Nat → Nat → Int32) (L : Nat → Nat → Int64) (i : Nat → Int32) (a : Nat → Nat → Int32) (l9 : Nat → Nat → Int64) (o : Nat → Int64) (H : Heap) (locs : List Loc) (ls : Array Slot), Rel I J A L i a l9 → va_P D vwCl (wA qc qm qo ca I J A L i a l9 o) H → va_D (fun q : Nat => s.heap.size ≤ q) (wA qc qm qo ca I J A L i a l9 o) → va_S (fun q : Nat => s.heap.size ≤ q) s.heap H locs → lv_has ls 8 [(4, .int (nI n)), (3, .ref qo), (2, .ref (qm 0)), (1, .ref (qc 0)), (0, .ref b)] → W p l e room_1 s m #[Value.ref b] below meth c H locs (400 + n + 1) (20000 + 6 * n + 6) (lw_Z below #[Value.ref b] s) (F0 m 1452 ls [])) : W p l e room_1 s m #[Value.ref b] below meth c H locs (400 + n) (20000 + 6 * n) (lw_Z below #[Value.ref b] s) (F0 m 1316 ls []) := by
  obtain ⟨hx, hb, hr, hml, hown, hts0, hX, hbl, hlocks, hgv⟩ := C0
  have hts : ∀ w ∈ TT, w.before #[Value.ref b] s = true := fun w h => hts0 w (List.mem_filter.mp h).1
  have hA : ∀ q : Nat, s.heap.size ≤ q → (fun q : Nat => s.heap.size ≤ q) q := fun _ h => h
  have hbA : ¬ (fun q : Nat => s.heap.size ≤ q) b := Nat.not_le.mpr hbl
  have hown : s.vm.findClass nR_Law = some m.cls := hown
  have hev : xt_ev s H := k_evH hev0 hS
  unfold st_plan at hst
  rcases hst with ⟨R1, R2, R3, R4, R5, R6, R7, R8, R9, R10, R11, R12, R13, R14, R15, R16, R17, R18, S0, S1, S2, S3, S4, S5, S6, S7, S8, S9, e1, e2, et, ea, hRel⟩ | ⟨S0, S1, S2, S3, S4, S5, S6, S7, S8, S9, e1, e2, et, hRel⟩
  ·
    refine lv_aload_n hx hb nd_Law_law_1316 rfl (lv_at hl 3 rfl) ?_
    refine lv_aload_n hx hb nd_Law_law_1317 rfl (lv_at hl 4 rfl) ?_
    refine lv_iload hx hb nd_Law_law_1318 (lv_at hl 0 rfl) ?_
    refine lv_iconst (v := 1) hx hb nd_Law_law_1320 (by decide) ?_
    refine lv_iadd hx hb nd_Law_law_1321 ?_
    refine k_sld (n := n) (j := 1) hx hb hX hbl hbA hS (k_sidx rfl) (by omega) hL nd_Law_law_1322 ?_
    refine lv_aload_n hx hb nd_Law_law_1323 rfl (lv_at hl 4 rfl) ?_
    refine lv_iload hx hb nd_Law_law_1324 (lv_at hl 0 rfl) ?_
    refine lv_iconst (v := 2) hx hb nd_Law_law_1326 (by decide) ?_
    refine lv_iadd hx hb nd_Law_law_1327 ?_
    refine k_sld (n := n) (j := 2) hx hb hX hbl hbA hS (k_sidx rfl) (by omega) hL nd_Law_law_1328 ?_
    refine lv_aload_n hx hb nd_Law_law_1329 rfl (lv_at hl 4 rfl) ?_
    refine lv_iload hx hb nd_Law_law_1330 (lv_at hl 0 rfl) ?_
    refine lv_iconst (v := 3) hx hb nd_Law_law_1332 (by decide) ?_
    refine lv_iadd hx hb nd_Law_law_1333 ?_
    refine k_sld (n := n) (j := 3) hx hb hX hbl hbA hS (k_sidx rfl) (by omega) hL nd_Law_law_1334 ?_
    refine lv_aload_n hx hb nd_Law_law_1335 rfl (lv_at hl 1 rfl) ?_
    refine k_wSWI (wr := k_pick (wA qc qm qo ca I J A L i a l9 o) [3, 4, 34, 35, 36, 37, 38, 39, 40, 41, 42, 43, 44, 45, 46, 47, 48, 49, 50, 51, 52, 53, 54, 55, 56, 57, 58, 59, 60, 61, 62, 63, 64, 65, 66, 67, 68, 69, 70, 71, 72, 73, 74, 75, 76, 77, 78, 79, 80, 81, 82, 83, 84, 85, 86, 87]) (w2 := wA qc qm qo ca (va_up (va_up (va_up (va_up I 6 R1) 7 R2) 8 R5) 9 R9) (va_up (va_up (va_up J 3 R3) 4 R4) 5 R10) (va_up (va_up (va_up (va_up (va_up (va_up (va_up A 9 R6) 10 R7) 11 R11) 12 R12) 13 R13) 14 R14) 15 R15) (va_up (va_up (va_up L 5 R8) 3 R16) 4 R17) i a l9 R18) (As := [.ref (qc 0), .int (xs (n + 1)), .int (xs (n + 2)), .int (xs (n + 3)), .ref qo]) (rest := []) (r := 0) hx hb hml hown hts (cn_Law_plan l D ca (qc 0) (qc 1) (qc 19) (qc 34) (qc 47) (qc 48) (qc 58) (qc 20) (qc 23) (qc 27) (qc 28) (qc 2) (qc 5) (qc 9) (qc 13) (qc 3) (qc 4) (qc 21) (qc 22) (qc 6) (qc 7) (qc 8) (qc 24) (qc 25) (qc 26) (qc 10) (qc 29) (qc 30) (qc 31) (qc 32) (qc 33) (qc 14) (qc 15) (qc 16) (qc 17) (qc 18) (qc 11) (qc 12) qo (I 0) (I 1) (I 2) (J 0) (J 1) (I 6) (I 7) (J 3) (J 4) (I 3) (I 8) (A 0) (A 9) (A 1) (A 10) (L 2) (L 5) (I 4) (J 2) (I 9) (J 5) (A 4) (A 11) (A 5) (A 12) (A 6) (A 13) (A 7) (A 14) (A 8) (A 15) (L 3) (L 4) (I 5) (A 3) (A 2) o (xs (n + 1)) (xs (n + 2)) (xs (n + 3)) (0 : Int32) R1 R2 R3 R4 R5 R6 R7 R8 R9 R10 R11 R12 R13 R14 R15 R16 R17 R18 e1 _) kc_Law_plan ks_Law_plan tt_664 ⟨by decide, by decide⟩ rfl rfl hP hK hD hS hA [0, 19, 1, 2, 20, 5, 23, 6, 24, 7, 25, 8, 26, 9, 27, 28, 13, 14, 29, 15, 30, 16, 31, 17, 32, 18, 33, 21, 22, 10, 12, 11, 88] [3, 4, 34, 35, 36, 37, 38, 39, 40, 41, 42, 43, 44, 45, 46, 47, 48, 49, 50, 51, 52, 53, 54, 55, 56, 57, 58, 59, 60, 61, 62, 63, 64, 65, 66, 67, 68, 69, 70, 71, 72, 73, 74, 75, 76, 77, 78, 79, 80, 81, 82, 83, 84, 85, 86, 87] [56, 58, 59, 0, 1, 61, 63, 65, 67, 69, 85, 87, 86, 72, 73, 75, 77, 79, 81, 57, 60, 83, 84, 62, 64, 66, 68, 70, 71, 74, 76, 78, 80, 82, 2, 3, 4, 5, 6, 7, 8, 9, 10, 11, 12, 13, 14, 15, 16, 17, 18, 19, 20, 21, 22, 23, 24, 25, 26, 27, 28, 29, 30, 31, 32, 33, 34, 35, 36, 37, 38, 39, 40, 41, 42, 43, 44, 45, 46, 47, 48, 49, 50, 51, 52, 53, 54, 55, 88] rfl (by decide) rfl (by decide) (by decide) rfl (by decide) rfl hl.1 (Nat.le_of_ble_eq_true rfl) rfl nd_Law_law_1336 ⟨by show _ ≤ 601024; omega, by show _ ≤ 7293034; omega⟩ (fun H locs hP hD hS => ?_)
    refine W.widen (k := 400 + n) (n := 20000 + 6 * n) (by omega) (by omega) ?_
    refine lv_istore (lv' := [(5, .int 0), (4, .int (nI n)), (3, .ref qo), (2, .ref (qm 0)), (1, .ref (qc 0)), (0, .ref b)]) hx hb nd_Law_law_1339 hl (by decide) rfl (fun ls hl => ?_)
    refine lv_aload_n hx hb nd_Law_law_1341 rfl (lv_at hl 3 rfl) ?_
    refine lv_aload_n hx hb nd_Law_law_1342 rfl (lv_at hl 5 rfl) ?_
    refine lv_iload hx hb nd_Law_law_1343 (lv_at hl 1 rfl) ?_
    refine lv_iconst (v := 1) hx hb nd_Law_law_1345 (by decide) ?_
    refine lv_iadd hx hb nd_Law_law_1346 ?_
    refine k_sld (n := n) (j := 1) hx hb hX hbl hbA hS (k_sidx rfl) (by omega) hL nd_Law_law_1347 ?_
    refine lv_aload_n hx hb nd_Law_law_1348 rfl (lv_at hl 5 rfl) ?_
    refine lv_iload hx hb nd_Law_law_1349 (lv_at hl 1 rfl) ?_
    refine lv_iconst (v := 2) hx hb nd_Law_law_1351 (by decide) ?_
    refine lv_iadd hx hb nd_Law_law_1352 ?_
    refine k_sld (n := n) (j := 2) hx hb hX hbl hbA hS (k_sidx rfl) (by omega) hL nd_Law_law_1353 ?_
    refine lv_aload_n hx hb nd_Law_law_1354 rfl (lv_at hl 5 rfl) ?_
    refine lv_iload hx hb nd_Law_law_1355 (lv_at hl 1 rfl) ?_
    refine lv_iconst (v := 3) hx hb nd_Law_law_1357 (by decide) ?_
    refine lv_iadd hx hb nd_Law_law_1358 ?_
    refine k_sld (n := n) (j := 3) hx hb hX hbl hbA hS (k_sidx rfl) (by omega) hL nd_Law_law_1359 ?_
    refine k_wVI (wr := k_pick (wA qc qm qo ca (va_up (va_up (va_up (va_up I 6 R1) 7 R2) 8 R5) 9 R9) (va_up (va_up (va_up J 3 R3) 4 R4) 5 R10) (va_up (va_up (va_up (va_up (va_up (va_up (va_up A 9 R6) 10 R7) 11 R11) 12 R12) 13 R13) 14 R14) 15 R15) (va_up (va_up (va_up L 5 R8) 3 R16) 4 R17) i a l9 R18) [0, 1, 2, 3, 4, 5, 6, 7, 8, 9, 10, 11, 12, 13, 14, 15, 16, 17, 18, 19, 20, 21, 22, 23, 24, 25, 26, 27, 28, 29, 30, 31, 32, 33, 34, 35, 36, 37, 38, 39, 40, 41, 42, 43, 44, 45, 46, 47, 48, 49, 50, 51, 52, 53, 54, 55, 56, 57, 58, 59, 60, 61, 62, 76, 77, 78, 79, 80, 81, 82, 83, 84, 85, 86, 87, 88]) (w2 := wA qc qm qo ca (va_up (va_up (va_up (va_up I 6 R1) 7 R2) 8 R5) 9 R9) (va_up (va_up (va_up J 3 R3) 4 R4) 5 R10) (va_up (va_up (va_up (va_up (va_up (va_up (va_up A 9 R6) 10 R7) 11 R11) 12 R12) 13 R13) 14 R14) 15 R15) (va_up (va_up (va_up L 5 R8) 3 R16) 4 R17) (va_up i 0 S1) (va_up (va_up (va_up (va_up a 4 S4) 7 S5) 5 S7) 6 S8) (va_up (va_up (va_up (va_up l9 1 S2) 3 S3) 0 S6) 2 S9) R18) (As := [.int (xs (n + 1)), .int (xs (n + 2)), .int (xs (n + 3))]) (rest := []) (r := S0) hx hb hml hown hts (cn_Model_plan l D ca (qm 0) (qm 1) (qm 2) (qm 3) (qm 4) (qm 5) (qm 6) (qm 7) (qm 8) (qm 9) (qm 10) (qm 11) (qm 12) (qm 13) (qm 14) (qm 15) (qm 16) (qm 17) (qm 18) (qm 19) (qm 20) (qm 21) (qm 22) (qm 23) (qm 24) (i 0) (i 1) (i 2) (i 3) (i 4) (i 5) (i 6) (i 7) (l9 0) (l9 1) (l9 2) (l9 3) (a 4) (a 5) (a 6) (a 7) (a 0) (a 1) (a 3) (a 2) (xs (n + 1)) (xs (n + 2)) (xs (n + 3)) S0 S1 S2 S3 S4 S5 S6 S7 S8 S9 e2 _) kc_Model_plan kv_Model_plan tt_989 ⟨by decide, by decide⟩ rfl rfl hP hK hD hS hA [63, 64, 65, 66, 67, 72, 73, 74, 75, 68, 69, 71, 70] [0, 1, 2, 3, 4, 5, 6, 7, 8, 9, 10, 11, 12, 13, 14, 15, 16, 17, 18, 19, 20, 21, 22, 23, 24, 25, 26, 27, 28, 29, 30, 31, 32, 33, 34, 35, 36, 37, 38, 39, 40, 41, 42, 43, 44, 45, 46, 47, 48, 49, 50, 51, 52, 53, 54, 55, 56, 57, 58, 59, 60, 61, 62, 76, 77, 78, 79, 80, 81, 82, 83, 84, 85, 86, 87, 88] [0, 1, 2, 3, 4, 5, 6, 7, 8, 9, 10, 11, 12, 13, 14, 15, 16, 17, 18, 19, 20, 21, 22, 23, 24, 25, 26, 27, 28, 29, 30, 31, 32, 33, 34, 35, 36, 37, 38, 39, 40, 41, 42, 43, 44, 45, 46, 47, 48, 49, 50, 51, 52, 53, 54, 55, 56, 57, 58, 59, 60, 61, 62, 76, 77, 78, 79, 80, 85, 86, 88, 87, 81, 82, 83, 84, 63, 64, 65, 66, 67, 68, 69, 70, 71, 72, 73, 74, 75] rfl (by decide) rfl (by decide) (by decide) rfl (by decide) 0 rfl rfl rfl rfl hl.1 (Nat.le_of_ble_eq_true rfl) rfl nd_Law_law_1360 ⟨by show _ ≤ 601024; omega, by show _ ≤ 7293034; omega⟩ (fun H locs hP hD hS => ?_)
    refine lv_istore (lv' := [(6, .int S0), (5, .int 0), (4, .int (nI n)), (3, .ref qo), (2, .ref (qm 0)), (1, .ref (qc 0)), (0, .ref b)]) hx hb nd_Law_law_1363 hl (by decide) rfl (fun ls hl => ?_)
    refine lv_aload_n hx hb nd_Law_law_1365 rfl (lv_at hl 4 rfl) ?_
    refine k_rVI (As := []) (rest := []) (r := S1) hx hb hml hown hts (cn_Model_thrown l D ca (qm 0) (qm 1) (qm 2) (qm 3) (qm 4) (qm 5) (qm 6) (qm 7) (qm 8) (qm 9) (qm 10) (qm 11) (qm 12) (qm 13) (qm 14) (qm 15) (qm 16) (qm 17) (qm 18) (qm 19) (qm 20) (qm 21) (qm 22) (qm 23) (qm 24) ((va_up i 0 S1) 0) ((va_up i 0 S1) 1) ((va_up i 0 S1) 2) ((va_up i 0 S1) 3) ((va_up i 0 S1) 4) ((va_up i 0 S1) 5) ((va_up i 0 S1) 6) ((va_up i 0 S1) 7) S1 rfl) kc_Model_thrown kv_Model_thrown tt_820 ⟨by decide, by decide⟩ rfl rfl hP hK [63] rfl 0 rfl rfl rfl rfl hl.1 (Nat.le_of_ble_eq_true rfl) rfl nd_Law_law_1366 ⟨by show _ ≤ 601024; omega, by show _ ≤ 7293034; omega⟩ ?_
    refine lv_iload hx hb nd_Law_law_1369 (lv_at hl 1 rfl) ?_
    refine lv_icmp_eq (tgt := 1376) hx hb nd_Law_law_1371 (by decide) (fun c1 => ?_) (fun c1 => ?_)
    rotate_left
    · exact absurd et c1
    refine lv_iload hx hb nd_Law_law_1376 (lv_at hl 1 rfl) ?_
    refine lv_if_ne (tgt := 1393) hx hb nd_Law_law_1378 (by decide) (fun c2 => ?_) (fun c2 => ?_)
    · exact absurd rfl c2
    refine lv_aload_n hx hb nd_Law_law_1381 rfl (lv_at hl 3 rfl) ?_
    refine lv_iconst (v := 0) hx hb nd_Law_law_1382 (by decide) ?_
    refine va_lald hx hb hK hP 88 1 rfl rfl (by unfold vp_in; decide) nd_Law_law_1383 ?_
    refine lv_iload hx hb nd_Law_law_1384 (lv_at hl 0 rfl) ?_
    refine lv_i2l hx hb nd_Law_law_1386 rfl ?_
    refine W.lcmp hx hb nd_Law_law_1387 ?_
    refine lv_if_eq (tgt := 1393) hx hb nd_Law_law_1388 (by decide) (fun c3 => ?_) (fun c3 => ?_)
    rotate_left
    · exact absurd ea c3
    refine lv_goto (tgt := 1452) hx hb nd_Law_law_1393 (by decide) ?_
    refine W.widen (k := 400 + n + 1) (n := 20000 + 6 * n + 6) (by omega) (by omega) ?_
    exact hnext _ _ _ _ _ _ _ _ _ _ _ hRel hP hD hS (lv_sub hl [2, 3, 4, 5, 6] rfl)
  ·
    refine lv_aload_n hx hb nd_Law_law_1316 rfl (lv_at hl 3 rfl) ?_
    refine lv_aload_n hx hb nd_Law_law_1317 rfl (lv_at hl 4 rfl) ?_
    refine lv_iload hx hb nd_Law_law_1318 (lv_at hl 0 rfl) ?_
    refine lv_iconst (v := 1) hx hb nd_Law_law_1320 (by decide) ?_
    refine lv_iadd hx hb nd_Law_law_1321 ?_
    refine k_sld (n := n) (j := 1) hx hb hX hbl hbA hS (k_sidx rfl) (by omega) hL nd_Law_law_1322 ?_
    refine lv_aload_n hx hb nd_Law_law_1323 rfl (lv_at hl 4 rfl) ?_
    refine lv_iload hx hb nd_Law_law_1324 (lv_at hl 0 rfl) ?_
    refine lv_iconst (v := 2) hx hb nd_Law_law_1326 (by decide) ?_
    refine lv_iadd hx hb nd_Law_law_1327 ?_
    refine k_sld (n := n) (j := 2) hx hb hX hbl hbA hS (k_sidx rfl) (by omega) hL nd_Law_law_1328 ?_
    refine lv_aload_n hx hb nd_Law_law_1329 rfl (lv_at hl 4 rfl) ?_
    refine lv_iload hx hb nd_Law_law_1330 (lv_at hl 0 rfl) ?_
    refine lv_iconst (v := 3) hx hb nd_Law_law_1332 (by decide) ?_
    refine lv_iadd hx hb nd_Law_law_1333 ?_
    refine k_sld (n := n) (j := 3) hx hb hX hbl hbA hS (k_sidx rfl) (by omega) hL nd_Law_law_1334 ?_
    refine lv_aload_n hx hb nd_Law_law_1335 rfl (lv_at hl 1 rfl) ?_
    refine k_wSWX (wr := k_pick (wA qc qm qo ca I J A L i a l9 o) [3, 4, 34, 35, 36, 37, 38, 39, 40, 41, 42, 43, 44, 45, 46, 47, 48, 49, 50, 51, 52, 53, 54, 55, 56, 57, 58, 59, 60, 61, 62, 63, 64, 65, 66, 67, 68, 69, 70, 71, 72, 73, 74, 75, 76, 77, 78, 79, 80, 81, 82, 83, 84, 85, 86, 87]) (w2 := wA qc qm qo ca I J A L i a l9 o) (As := [.ref (qc 0), .int (xs (n + 1)), .int (xs (n + 2)), .int (xs (n + 3)), .ref qo]) (rest := []) (r := 1) hx hb hml hown hts (hx_Law_plan_3 l hlt D ca (qc 0) (qc 1) (qc 19) (qc 34) (qc 47) (qc 48) (qc 58) (qc 20) (qc 23) (qc 27) (qc 28) (qc 2) (qc 5) (qc 9) (qc 13) (qc 3) (qc 4) (qc 21) (qc 22) (qc 6) (qc 7) (qc 8) (qc 24) (qc 25) (qc 26) (qc 10) (qc 29) (qc 30) (qc 31) (qc 32) (qc 33) (qc 14) (qc 15) (qc 16) (qc 17) (qc 18) (qc 11) (qc 12) qo (I 0) (I 1) (I 2) (J 0) (J 1) (I 6) (I 7) (J 3) (J 4) (I 3) (I 8) (A 0) (A 9) (A 1) (A 10) (L 2) (L 5) (I 4) (J 2) (I 9) (J 5) (A 4) (A 11) (A 5) (A 12) (A 6) (A 13) (A 7) (A 14) (A 8) (A 15) (L 3) (L 4) (I 5) (A 3) (A 2) o (xs (n + 1)) (xs (n + 2)) (xs (n + 3)) e1 _) kc_Law_plan ks_Law_plan tt_664 ⟨by decide, by decide⟩ rfl rfl hP hK hD hS hA hev [0, 19, 1, 2, 20, 5, 23, 6, 24, 7, 25, 8, 26, 9, 27, 28, 13, 14, 29, 15, 30, 16, 31, 17, 32, 18, 33, 21, 22, 10, 12, 11, 88] [3, 4, 34, 35, 36, 37, 38, 39, 40, 41, 42, 43, 44, 45, 46, 47, 48, 49, 50, 51, 52, 53, 54, 55, 56, 57, 58, 59, 60, 61, 62, 63, 64, 65, 66, 67, 68, 69, 70, 71, 72, 73, 74, 75, 76, 77, 78, 79, 80, 81, 82, 83, 84, 85, 86, 87] [56, 58, 59, 0, 1, 61, 63, 65, 67, 69, 85, 87, 86, 72, 73, 75, 77, 79, 81, 57, 60, 83, 84, 62, 64, 66, 68, 70, 71, 74, 76, 78, 80, 82, 2, 3, 4, 5, 6, 7, 8, 9, 10, 11, 12, 13, 14, 15, 16, 17, 18, 19, 20, 21, 22, 23, 24, 25, 26, 27, 28, 29, 30, 31, 32, 33, 34, 35, 36, 37, 38, 39, 40, 41, 42, 43, 44, 45, 46, 47, 48, 49, 50, 51, 52, 53, 54, 55, 88] rfl (by decide) rfl (by decide) (by decide) rfl (by decide) rfl hl.1 (Nat.le_of_ble_eq_true rfl) rfl nd_Law_law_1336 ⟨by show _ ≤ 601024; omega, by show _ ≤ 7293034; omega⟩ (fun H locs hP hD hS => ?_)
    refine W.widen (k := 400 + n + 1) (n := 20000 + 6 * n + 6) (by omega) (by omega) ?_
    refine lv_istore (lv' := [(5, .int 1), (4, .int (nI n)), (3, .ref qo), (2, .ref (qm 0)), (1, .ref (qc 0)), (0, .ref b)]) hx hb nd_Law_law_1339 hl (by decide) rfl (fun ls hl => ?_)
    refine lv_aload_n hx hb nd_Law_law_1341 rfl (lv_at hl 3 rfl) ?_
    refine lv_aload_n hx hb nd_Law_law_1342 rfl (lv_at hl 5 rfl) ?_
    refine lv_iload hx hb nd_Law_law_1343 (lv_at hl 1 rfl) ?_
    refine lv_iconst (v := 1) hx hb nd_Law_law_1345 (by decide) ?_
    refine lv_iadd hx hb nd_Law_law_1346 ?_
    refine k_sld (n := n) (j := 1) hx hb hX hbl hbA hS (k_sidx rfl) (by omega) hL nd_Law_law_1347 ?_
    refine lv_aload_n hx hb nd_Law_law_1348 rfl (lv_at hl 5 rfl) ?_
    refine lv_iload hx hb nd_Law_law_1349 (lv_at hl 1 rfl) ?_
    refine lv_iconst (v := 2) hx hb nd_Law_law_1351 (by decide) ?_
    refine lv_iadd hx hb nd_Law_law_1352 ?_
    refine k_sld (n := n) (j := 2) hx hb hX hbl hbA hS (k_sidx rfl) (by omega) hL nd_Law_law_1353 ?_
    refine lv_aload_n hx hb nd_Law_law_1354 rfl (lv_at hl 5 rfl) ?_
    refine lv_iload hx hb nd_Law_law_1355 (lv_at hl 1 rfl) ?_
    refine lv_iconst (v := 3) hx hb nd_Law_law_1357 (by decide) ?_
    refine lv_iadd hx hb nd_Law_law_1358 ?_
    refine k_sld (n := n) (j := 3) hx hb hX hbl hbA hS (k_sidx rfl) (by omega) hL nd_Law_law_1359 ?_
    refine k_wVI (wr := k_pick (wA qc qm qo ca I J A L i a l9 o) [0, 1, 2, 3, 4, 5, 6, 7, 8, 9, 10, 11, 12, 13, 14, 15, 16, 17, 18, 19, 20, 21, 22, 23, 24, 25, 26, 27, 28, 29, 30, 31, 32, 33, 34, 35, 36, 37, 38, 39, 40, 41, 42, 43, 44, 45, 46, 47, 48, 49, 50, 51, 52, 53, 54, 55, 56, 57, 58, 59, 60, 61, 62, 76, 77, 78, 79, 80, 81, 82, 83, 84, 85, 86, 87, 88]) (w2 := wA qc qm qo ca I J A L (va_up i 0 S1) (va_up (va_up (va_up (va_up a 4 S4) 7 S5) 5 S7) 6 S8) (va_up (va_up (va_up (va_up l9 1 S2) 3 S3) 0 S6) 2 S9) o) (As := [.int (xs (n + 1)), .int (xs (n + 2)), .int (xs (n + 3))]) (rest := []) (r := S0) hx hb hml hown hts (cn_Model_plan l D ca (qm 0) (qm 1) (qm 2) (qm 3) (qm 4) (qm 5) (qm 6) (qm 7) (qm 8) (qm 9) (qm 10) (qm 11) (qm 12) (qm 13) (qm 14) (qm 15) (qm 16) (qm 17) (qm 18) (qm 19) (qm 20) (qm 21) (qm 22) (qm 23) (qm 24) (i 0) (i 1) (i 2) (i 3) (i 4) (i 5) (i 6) (i 7) (l9 0) (l9 1) (l9 2) (l9 3) (a 4) (a 5) (a 6) (a 7) (a 0) (a 1) (a 3) (a 2) (xs (n + 1)) (xs (n + 2)) (xs (n + 3)) S0 S1 S2 S3 S4 S5 S6 S7 S8 S9 e2 _) kc_Model_plan kv_Model_plan tt_989 ⟨by decide, by decide⟩ rfl rfl hP hK hD hS hA [63, 64, 65, 66, 67, 72, 73, 74, 75, 68, 69, 71, 70] [0, 1, 2, 3, 4, 5, 6, 7, 8, 9, 10, 11, 12, 13, 14, 15, 16, 17, 18, 19, 20, 21, 22, 23, 24, 25, 26, 27, 28, 29, 30, 31, 32, 33, 34, 35, 36, 37, 38, 39, 40, 41, 42, 43, 44, 45, 46, 47, 48, 49, 50, 51, 52, 53, 54, 55, 56, 57, 58, 59, 60, 61, 62, 76, 77, 78, 79, 80, 81, 82, 83, 84, 85, 86, 87, 88] [0, 1, 2, 3, 4, 5, 6, 7, 8, 9, 10, 11, 12, 13, 14, 15, 16, 17, 18, 19, 20, 21, 22, 23, 24, 25, 26, 27, 28, 29, 30, 31, 32, 33, 34, 35, 36, 37, 38, 39, 40, 41, 42, 43, 44, 45, 46, 47, 48, 49, 50, 51, 52, 53, 54, 55, 56, 57, 58, 59, 60, 61, 62, 76, 77, 78, 79, 80, 85, 86, 88, 87, 81, 82, 83, 84, 63, 64, 65, 66, 67, 68, 69, 70, 71, 72, 73, 74, 75] rfl (by decide) rfl (by decide) (by decide) rfl (by decide) 0 rfl rfl rfl rfl hl.1 (Nat.le_of_ble_eq_true rfl) rfl nd_Law_law_1360 ⟨by show _ ≤ 601024; omega, by show _ ≤ 7293034; omega⟩ (fun H locs hP hD hS => ?_)
    refine lv_istore (lv' := [(6, .int S0), (5, .int 1), (4, .int (nI n)), (3, .ref qo), (2, .ref (qm 0)), (1, .ref (qc 0)), (0, .ref b)]) hx hb nd_Law_law_1363 hl (by decide) rfl (fun ls hl => ?_)
    refine lv_aload_n hx hb nd_Law_law_1365 rfl (lv_at hl 4 rfl) ?_
    refine k_rVI (As := []) (rest := []) (r := S1) hx hb hml hown hts (cn_Model_thrown l D ca (qm 0) (qm 1) (qm 2) (qm 3) (qm 4) (qm 5) (qm 6) (qm 7) (qm 8) (qm 9) (qm 10) (qm 11) (qm 12) (qm 13) (qm 14) (qm 15) (qm 16) (qm 17) (qm 18) (qm 19) (qm 20) (qm 21) (qm 22) (qm 23) (qm 24) ((va_up i 0 S1) 0) ((va_up i 0 S1) 1) ((va_up i 0 S1) 2) ((va_up i 0 S1) 3) ((va_up i 0 S1) 4) ((va_up i 0 S1) 5) ((va_up i 0 S1) 6) ((va_up i 0 S1) 7) S1 rfl) kc_Model_thrown kv_Model_thrown tt_820 ⟨by decide, by decide⟩ rfl rfl hP hK [63] rfl 0 rfl rfl rfl rfl hl.1 (Nat.le_of_ble_eq_true rfl) rfl nd_Law_law_1366 ⟨by show _ ≤ 601024; omega, by show _ ≤ 7293034; omega⟩ ?_
    refine lv_iload hx hb nd_Law_law_1369 (lv_at hl 1 rfl) ?_
    refine lv_icmp_eq (tgt := 1376) hx hb nd_Law_law_1371 (by decide) (fun c4 => ?_) (fun c4 => ?_)
    rotate_left
    · exact absurd et c4
    refine lv_iload hx hb nd_Law_law_1376 (lv_at hl 1 rfl) ?_
    refine lv_if_ne (tgt := 1393) hx hb nd_Law_law_1378 (by decide) (fun c5 => ?_) (fun c5 => ?_)
    rotate_left
    · exact absurd c5 (by decide)
    refine lv_goto (tgt := 1452) hx hb nd_Law_law_1393 (by decide) ?_
    refine W.widen (k := 400 + n + 1) (n := 20000 + 6 * n + 6) (by omega) (by omega) ?_
    exact hnext _ _ _ _ _ _ _ _ _ _ _ hRel hP hD hS (lv_sub hl [2, 3, 4, 5, 6] rfl)
set_option maxHeartbeats 8000000 in
set_option maxRecDepth 100000 in
theorem lc_count {p : Program} {l : Launch} {e : Env} {s : State} {m : MethodId} {below : List Frame} {meth : Method} {c : Code} {D : va_G} {ca : Nat → ClassId} {b Ls : Nat} {xs : Nat → Int32} (C0 : lw_At p s m meth c b Ls xs) (hL : Ls ≤ 2560) (hlt : l.stackTraces = false) (hev0 : xt_ev s s.heap) (hK : va_K D vwCl (tyG ca) s) {Rel : (Nat → Int32) → (Nat → Int64) → (Nat → Nat → Int32) → (Nat → Nat → Int64) → (Nat → Int32) → (Nat → Nat → Int32) → (Nat → Nat → Int64) → Prop} {qc qm : Nat → Nat} {qo : Nat} {I : Nat → Int32} {J : Nat → Int64} {A : Nat → Nat → Int32} {L : Nat → Nat → Int64} {i : Nat → Int32} {a : Nat → Nat → Int32} {l9 : Nat → Nat → Int64} {o : Nat → Int64} {n : Nat} (hn : n + 5 ≤ Ls) {H : Heap} {locs : List Loc} {ls : Array Slot} (hP : va_P D vwCl (wA qc qm qo ca I J A L i a l9 o) H) (hD : va_D (fun q : Nat => s.heap.size ≤ q) (wA qc qm qo ca I J A L i a l9 o)) (hS : va_S (fun q : Nat => s.heap.size ≤ q) s.heap H locs) (hl : lv_has ls 8 [(4, .int (nI n)), (3, .ref qo), (2, .ref (qm 0)), (1, .ref (qc 0)), (0, .ref b)]) (hst : st_count Rel I J A L i a l9 o (xs (n + 1))) (hnext : ∀ (I : Nat → Int32) (J : Nat → Int64) (A : Nat → Nat → Int32) (L : Nat → Nat → Int64) (i : Nat → Int32) (a : Nat → Nat → Int32) (l9 : Nat → Nat → Int64) (o : Nat → Int64) (H : Heap) (locs : List Loc) (ls : Array Slot), Rel I J A L i a l9 → va_P D vwCl (wA qc qm qo ca I J A L i a l9 o) H → va_D (fun q : Nat => s.heap.size ≤ q) (wA qc qm qo ca I J A L i a l9 o) → va_S (fun q : Nat => s.heap.size ≤ q) s.heap H locs → lv_has ls 8 [(4, .int (nI n)), (3, .ref qo), (2, .ref (qm 0)), (1, .ref (qc 0)), (0, .ref b)] → W p l e room_1 s m #[Value.ref b] below meth c H locs (400 + n + 1) (20000 + 6 * n + 6) (lw_Z below #[Value.ref b] s) (F0 m 1452 ls [])) : W p l e room_1 s m #[Value.ref b] below meth c H locs (400 + n) (20000 + 6 * n) (lw_Z below #[Value.ref b] s) (F0 m 1396 ls []) := by
  obtain ⟨hx, hb, hr, hml, hown, hts0, hX, hbl, hlocks, hgv⟩ := C0
  have hts : ∀ w ∈ TT, w.before #[Value.ref b] s = true := fun w h => hts0 w (List.mem_filter.mp h).1
  have hA : ∀ q : Nat, s.heap.size ≤ q → (fun q : Nat => s.heap.size ≤ q) q := fun _ h => h
  have hbA : ¬ (fun q : Nat => s.heap.size ≤ q) b := Nat.not_le.mpr hbl
  have hown : s.vm.findClass nR_Law = some m.cls := hown
  have hev : xt_ev s H := k_evH hev0 hS
  unfold st_count at hst
  rcases hst with ⟨R1, S0, S1, e1, e2, et, ea, hRel⟩ | ⟨S0, S1, e1, e2, et, hRel⟩
  ·
    refine lv_aload_n hx hb nd_Law_law_1396 rfl (lv_at hl 3 rfl) ?_
    refine lv_aload_n hx hb nd_Law_law_1397 rfl (lv_at hl 4 rfl) ?_
    refine lv_iload hx hb nd_Law_law_1398 (lv_at hl 0 rfl) ?_
    refine lv_iconst (v := 1) hx hb nd_Law_law_1400 (by decide) ?_
    refine lv_iadd hx hb nd_Law_law_1401 ?_
    refine k_sld (n := n) (j := 1) hx hb hX hbl hbA hS (k_sidx rfl) (by omega) hL nd_Law_law_1402 ?_
    refine lv_aload_n hx hb nd_Law_law_1403 rfl (lv_at hl 1 rfl) ?_
    refine k_wSWI (wr := k_pick (wA qc qm qo ca I J A L i a l9 o) [2, 3, 4, 6, 7, 8, 11, 12, 13, 14, 15, 16, 17, 18, 19, 20, 21, 22, 23, 24, 25, 26, 27, 28, 29, 30, 31, 32, 33, 34, 35, 36, 37, 38, 39, 40, 41, 42, 43, 44, 45, 46, 47, 49, 50, 51, 52, 53, 54, 55, 56, 57, 59, 60, 61, 62, 63, 64, 65, 66, 67, 68, 69, 70, 71, 72, 73, 74, 75, 76, 77, 78, 79, 80, 81, 82, 83, 84, 85, 86, 87]) (w2 := wA qc qm qo ca I J A L i a l9 R1) (As := [.ref (qc 0), .int (xs (n + 1)), .ref qo]) (rest := []) (r := 0) hx hb hml hown hts (cn_Law_count l D ca (qc 0) (qc 1) (qc 19) (qc 34) (qc 47) (qc 48) (qc 58) (qc 2) (qc 5) (qc 9) (qc 13) (qc 6) (qc 7) (qc 8) (qc 10) (qc 11) (qc 12) (qc 49) (qc 50) (qc 51) (qc 52) (qc 53) (qc 59) (qc 60) (qc 61) (qc 62) qo (I 0) (I 3) (I 4) (J 2) (I 5) (I 14) (I 15) o (xs (n + 1)) (0 : Int32) R1 e1 _) kc_Law_count ks_Law_count tt_706 ⟨by decide, by decide⟩ rfl rfl hP hK hD hS hA [0, 1, 5, 9, 10, 48, 58, 88] [2, 3, 4, 6, 7, 8, 11, 12, 13, 14, 15, 16, 17, 18, 19, 20, 21, 22, 23, 24, 25, 26, 27, 28, 29, 30, 31, 32, 33, 34, 35, 36, 37, 38, 39, 40, 41, 42, 43, 44, 45, 46, 47, 49, 50, 51, 52, 53, 54, 55, 56, 57, 59, 60, 61, 62, 63, 64, 65, 66, 67, 68, 69, 70, 71, 72, 73, 74, 75, 76, 77, 78, 79, 80, 81, 82, 83, 84, 85, 86, 87] [81, 82, 0, 1, 2, 83, 3, 4, 5, 84, 85, 6, 7, 8, 9, 10, 11, 12, 13, 14, 15, 16, 17, 18, 19, 20, 21, 22, 23, 24, 25, 26, 27, 28, 29, 30, 31, 32, 33, 34, 35, 36, 37, 38, 39, 40, 41, 42, 86, 43, 44, 45, 46, 47, 48, 49, 50, 51, 87, 52, 53, 54, 55, 56, 57, 58, 59, 60, 61, 62, 63, 64, 65, 66, 67, 68, 69, 70, 71, 72, 73, 74, 75, 76, 77, 78, 79, 80, 88] rfl (by decide) rfl (by decide) (by decide) rfl (by decide) rfl hl.1 (Nat.le_of_ble_eq_true rfl) rfl nd_Law_law_1404 ⟨by show _ ≤ 601024; omega, by show _ ≤ 7293034; omega⟩ (fun H locs hP hD hS => ?_)
    refine W.widen (k := 400 + n) (n := 20000 + 6 * n) (by omega) (by omega) ?_
    refine lv_istore (lv' := [(5, .int 0), (4, .int (nI n)), (3, .ref qo), (2, .ref (qm 0)), (1, .ref (qc 0)), (0, .ref b)]) hx hb nd_Law_law_1407 hl (by decide) rfl (fun ls hl => ?_)
    refine lv_aload_n hx hb nd_Law_law_1409 rfl (lv_at hl 3 rfl) ?_
    refine lv_aload_n hx hb nd_Law_law_1410 rfl (lv_at hl 5 rfl) ?_
    refine lv_iload hx hb nd_Law_law_1411 (lv_at hl 1 rfl) ?_
    refine lv_iconst (v := 1) hx hb nd_Law_law_1413 (by decide) ?_
    refine lv_iadd hx hb nd_Law_law_1414 ?_
    refine k_sld (n := n) (j := 1) hx hb hX hbl hbA hS (k_sidx rfl) (by omega) hL nd_Law_law_1415 ?_
    refine k_wVI (wr := k_pick (wA qc qm qo ca I J A L i a l9 R1) [0, 1, 2, 3, 4, 5, 6, 7, 8, 9, 10, 11, 12, 13, 14, 15, 16, 17, 18, 19, 20, 21, 22, 23, 24, 25, 26, 27, 28, 29, 30, 31, 32, 33, 34, 35, 36, 37, 38, 39, 40, 41, 42, 43, 44, 45, 46, 47, 48, 49, 50, 51, 52, 53, 54, 55, 56, 57, 58, 59, 60, 61, 62, 64, 65, 66, 67, 68, 69, 70, 71, 72, 73, 74, 75, 76, 77, 78, 79, 80, 81, 82, 83, 84, 85, 87, 88]) (w2 := wA qc qm qo ca I J A L (va_up i 0 S1) a l9 R1) (As := [.int (xs (n + 1))]) (rest := []) (r := S0) hx hb hml hown hts (cn_Model_count l D ca (qm 0) (qm 1) (qm 2) (qm 3) (qm 4) (qm 5) (qm 6) (qm 7) (qm 8) (qm 9) (qm 10) (qm 11) (qm 12) (qm 13) (qm 14) (qm 15) (qm 16) (qm 17) (qm 18) (qm 19) (qm 20) (qm 21) (qm 22) (qm 23) (qm 24) (i 0) (i 1) (i 2) (i 3) (i 4) (i 5) (i 6) (i 7) (a 18) (xs (n + 1)) S0 S1 e2 _) kc_Model_count kv_Model_count tt_999 ⟨by decide, by decide⟩ rfl rfl hP hK hD hS hA [63, 86] [0, 1, 2, 3, 4, 5, 6, 7, 8, 9, 10, 11, 12, 13, 14, 15, 16, 17, 18, 19, 20, 21, 22, 23, 24, 25, 26, 27, 28, 29, 30, 31, 32, 33, 34, 35, 36, 37, 38, 39, 40, 41, 42, 43, 44, 45, 46, 47, 48, 49, 50, 51, 52, 53, 54, 55, 56, 57, 58, 59, 60, 61, 62, 64, 65, 66, 67, 68, 69, 70, 71, 72, 73, 74, 75, 76, 77, 78, 79, 80, 81, 82, 83, 84, 85, 87, 88] [0, 1, 2, 3, 4, 5, 6, 7, 8, 9, 10, 11, 12, 13, 14, 15, 16, 17, 18, 19, 20, 21, 22, 23, 24, 25, 26, 27, 28, 29, 30, 31, 32, 33, 34, 35, 36, 37, 38, 39, 40, 41, 42, 43, 44, 45, 46, 47, 48, 49, 50, 51, 52, 53, 54, 55, 56, 57, 58, 59, 60, 61, 62, 87, 63, 64, 65, 66, 67, 68, 69, 70, 71, 72, 73, 74, 75, 76, 77, 78, 79, 80, 81, 82, 83, 84, 88, 85, 86] rfl (by decide) rfl (by decide) (by decide) rfl (by decide) 0 rfl rfl rfl rfl hl.1 (Nat.le_of_ble_eq_true rfl) rfl nd_Law_law_1416 ⟨by show _ ≤ 601024; omega, by show _ ≤ 7293034; omega⟩ (fun H locs hP hD hS => ?_)
    refine lv_istore (lv' := [(6, .int S0), (5, .int 0), (4, .int (nI n)), (3, .ref qo), (2, .ref (qm 0)), (1, .ref (qc 0)), (0, .ref b)]) hx hb nd_Law_law_1419 hl (by decide) rfl (fun ls hl => ?_)
    refine lv_aload_n hx hb nd_Law_law_1421 rfl (lv_at hl 4 rfl) ?_
    refine k_rVI (As := []) (rest := []) (r := S1) hx hb hml hown hts (cn_Model_thrown l D ca (qm 0) (qm 1) (qm 2) (qm 3) (qm 4) (qm 5) (qm 6) (qm 7) (qm 8) (qm 9) (qm 10) (qm 11) (qm 12) (qm 13) (qm 14) (qm 15) (qm 16) (qm 17) (qm 18) (qm 19) (qm 20) (qm 21) (qm 22) (qm 23) (qm 24) ((va_up i 0 S1) 0) ((va_up i 0 S1) 1) ((va_up i 0 S1) 2) ((va_up i 0 S1) 3) ((va_up i 0 S1) 4) ((va_up i 0 S1) 5) ((va_up i 0 S1) 6) ((va_up i 0 S1) 7) S1 rfl) kc_Model_thrown kv_Model_thrown tt_820 ⟨by decide, by decide⟩ rfl rfl hP hK [63] rfl 0 rfl rfl rfl rfl hl.1 (Nat.le_of_ble_eq_true rfl) rfl nd_Law_law_1422 ⟨by show _ ≤ 601024; omega, by show _ ≤ 7293034; omega⟩ ?_
    refine lv_iload hx hb nd_Law_law_1425 (lv_at hl 1 rfl) ?_
    refine lv_icmp_eq (tgt := 1432) hx hb nd_Law_law_1427 (by decide) (fun c1 => ?_) (fun c1 => ?_)
    rotate_left
    · exact absurd et c1
    refine lv_iload hx hb nd_Law_law_1432 (lv_at hl 1 rfl) ?_
    refine lv_if_ne (tgt := 1449) hx hb nd_Law_law_1434 (by decide) (fun c2 => ?_) (fun c2 => ?_)
    · exact absurd rfl c2
    refine lv_aload_n hx hb nd_Law_law_1437 rfl (lv_at hl 3 rfl) ?_
    refine lv_iconst (v := 0) hx hb nd_Law_law_1438 (by decide) ?_
    refine va_lald hx hb hK hP 88 1 rfl rfl (by unfold vp_in; decide) nd_Law_law_1439 ?_
    refine lv_iload hx hb nd_Law_law_1440 (lv_at hl 0 rfl) ?_
    refine lv_i2l hx hb nd_Law_law_1442 rfl ?_
    refine W.lcmp hx hb nd_Law_law_1443 ?_
    refine lv_if_eq (tgt := 1449) hx hb nd_Law_law_1444 (by decide) (fun c3 => ?_) (fun c3 => ?_)
    rotate_left
    · exact absurd ea c3
    refine lv_goto (tgt := 1452) hx hb nd_Law_law_1449 (by decide) ?_
    refine W.widen (k := 400 + n + 1) (n := 20000 + 6 * n + 6) (by omega) (by omega) ?_
    exact hnext _ _ _ _ _ _ _ _ _ _ _ hRel hP hD hS (lv_sub hl [2, 3, 4, 5, 6] rfl)
  ·
    refine lv_aload_n hx hb nd_Law_law_1396 rfl (lv_at hl 3 rfl) ?_
    refine lv_aload_n hx hb nd_Law_law_1397 rfl (lv_at hl 4 rfl) ?_
    refine lv_iload hx hb nd_Law_law_1398 (lv_at hl 0 rfl) ?_
    refine lv_iconst (v := 1) hx hb nd_Law_law_1400 (by decide) ?_
    refine lv_iadd hx hb nd_Law_law_1401 ?_
    refine k_sld (n := n) (j := 1) hx hb hX hbl hbA hS (k_sidx rfl) (by omega) hL nd_Law_law_1402 ?_
    refine lv_aload_n hx hb nd_Law_law_1403 rfl (lv_at hl 1 rfl) ?_
    refine k_wSWX (wr := k_pick (wA qc qm qo ca I J A L i a l9 o) [2, 3, 4, 6, 7, 8, 11, 12, 13, 14, 15, 16, 17, 18, 19, 20, 21, 22, 23, 24, 25, 26, 27, 28, 29, 30, 31, 32, 33, 34, 35, 36, 37, 38, 39, 40, 41, 42, 43, 44, 45, 46, 47, 49, 50, 51, 52, 53, 54, 55, 56, 57, 59, 60, 61, 62, 63, 64, 65, 66, 67, 68, 69, 70, 71, 72, 73, 74, 75, 76, 77, 78, 79, 80, 81, 82, 83, 84, 85, 86, 87]) (w2 := wA qc qm qo ca I J A L i a l9 o) (As := [.ref (qc 0), .int (xs (n + 1)), .ref qo]) (rest := []) (r := 1) hx hb hml hown hts (hx_Law_count_1 l hlt D ca (qc 0) (qc 1) (qc 19) (qc 34) (qc 47) (qc 48) (qc 58) (qc 2) (qc 5) (qc 9) (qc 13) (qc 6) (qc 7) (qc 8) (qc 10) (qc 11) (qc 12) (qc 49) (qc 50) (qc 51) (qc 52) (qc 53) (qc 59) (qc 60) (qc 61) (qc 62) qo (I 0) (I 3) (I 4) (J 2) (I 5) (I 14) (I 15) o (xs (n + 1)) e1 _) kc_Law_count ks_Law_count tt_706 ⟨by decide, by decide⟩ rfl rfl hP hK hD hS hA hev [0, 1, 5, 9, 10, 48, 58, 88] [2, 3, 4, 6, 7, 8, 11, 12, 13, 14, 15, 16, 17, 18, 19, 20, 21, 22, 23, 24, 25, 26, 27, 28, 29, 30, 31, 32, 33, 34, 35, 36, 37, 38, 39, 40, 41, 42, 43, 44, 45, 46, 47, 49, 50, 51, 52, 53, 54, 55, 56, 57, 59, 60, 61, 62, 63, 64, 65, 66, 67, 68, 69, 70, 71, 72, 73, 74, 75, 76, 77, 78, 79, 80, 81, 82, 83, 84, 85, 86, 87] [81, 82, 0, 1, 2, 83, 3, 4, 5, 84, 85, 6, 7, 8, 9, 10, 11, 12, 13, 14, 15, 16, 17, 18, 19, 20, 21, 22, 23, 24, 25, 26, 27, 28, 29, 30, 31, 32, 33, 34, 35, 36, 37, 38, 39, 40, 41, 42, 86, 43, 44, 45, 46, 47, 48, 49, 50, 51, 87, 52, 53, 54, 55, 56, 57, 58, 59, 60, 61, 62, 63, 64, 65, 66, 67, 68, 69, 70, 71, 72, 73, 74, 75, 76, 77, 78, 79, 80, 88] rfl (by decide) rfl (by decide) (by decide) rfl (by decide) rfl hl.1 (Nat.le_of_ble_eq_true rfl) rfl nd_Law_law_1404 ⟨by show _ ≤ 601024; omega, by show _ ≤ 7293034; omega⟩ (fun H locs hP hD hS => ?_)
    refine W.widen (k := 400 + n + 1) (n := 20000 + 6 * n + 6) (by omega) (by omega) ?_
    refine lv_istore (lv' := [(5, .int 1), (4, .int (nI n)), (3, .ref qo), (2, .ref (qm 0)), (1, .ref (qc 0)), (0, .ref b)]) hx hb nd_Law_law_1407 hl (by decide) rfl (fun ls hl => ?_)
    refine lv_aload_n hx hb nd_Law_law_1409 rfl (lv_at hl 3 rfl) ?_
    refine lv_aload_n hx hb nd_Law_law_1410 rfl (lv_at hl 5 rfl) ?_
    refine lv_iload hx hb nd_Law_law_1411 (lv_at hl 1 rfl) ?_
    refine lv_iconst (v := 1) hx hb nd_Law_law_1413 (by decide) ?_
    refine lv_iadd hx hb nd_Law_law_1414 ?_
    refine k_sld (n := n) (j := 1) hx hb hX hbl hbA hS (k_sidx rfl) (by omega) hL nd_Law_law_1415 ?_
    refine k_wVI (wr := k_pick (wA qc qm qo ca I J A L i a l9 o) [0, 1, 2, 3, 4, 5, 6, 7, 8, 9, 10, 11, 12, 13, 14, 15, 16, 17, 18, 19, 20, 21, 22, 23, 24, 25, 26, 27, 28, 29, 30, 31, 32, 33, 34, 35, 36, 37, 38, 39, 40, 41, 42, 43, 44, 45, 46, 47, 48, 49, 50, 51, 52, 53, 54, 55, 56, 57, 58, 59, 60, 61, 62, 64, 65, 66, 67, 68, 69, 70, 71, 72, 73, 74, 75, 76, 77, 78, 79, 80, 81, 82, 83, 84, 85, 87, 88]) (w2 := wA qc qm qo ca I J A L (va_up i 0 S1) a l9 o) (As := [.int (xs (n + 1))]) (rest := []) (r := S0) hx hb hml hown hts (cn_Model_count l D ca (qm 0) (qm 1) (qm 2) (qm 3) (qm 4) (qm 5) (qm 6) (qm 7) (qm 8) (qm 9) (qm 10) (qm 11) (qm 12) (qm 13) (qm 14) (qm 15) (qm 16) (qm 17) (qm 18) (qm 19) (qm 20) (qm 21) (qm 22) (qm 23) (qm 24) (i 0) (i 1) (i 2) (i 3) (i 4) (i 5) (i 6) (i 7) (a 18) (xs (n + 1)) S0 S1 e2 _) kc_Model_count kv_Model_count tt_999 ⟨by decide, by decide⟩ rfl rfl hP hK hD hS hA [63, 86] [0, 1, 2, 3, 4, 5, 6, 7, 8, 9, 10, 11, 12, 13, 14, 15, 16, 17, 18, 19, 20, 21, 22, 23, 24, 25, 26, 27, 28, 29, 30, 31, 32, 33, 34, 35, 36, 37, 38, 39, 40, 41, 42, 43, 44, 45, 46, 47, 48, 49, 50, 51, 52, 53, 54, 55, 56, 57, 58, 59, 60, 61, 62, 64, 65, 66, 67, 68, 69, 70, 71, 72, 73, 74, 75, 76, 77, 78, 79, 80, 81, 82, 83, 84, 85, 87, 88] [0, 1, 2, 3, 4, 5, 6, 7, 8, 9, 10, 11, 12, 13, 14, 15, 16, 17, 18, 19, 20, 21, 22, 23, 24, 25, 26, 27, 28, 29, 30, 31, 32, 33, 34, 35, 36, 37, 38, 39, 40, 41, 42, 43, 44, 45, 46, 47, 48, 49, 50, 51, 52, 53, 54, 55, 56, 57, 58, 59, 60, 61, 62, 87, 63, 64, 65, 66, 67, 68, 69, 70, 71, 72, 73, 74, 75, 76, 77, 78, 79, 80, 81, 82, 83, 84, 88, 85, 86] rfl (by decide) rfl (by decide) (by decide) rfl (by decide) 0 rfl rfl rfl rfl hl.1 (Nat.le_of_ble_eq_true rfl) rfl nd_Law_law_1416 ⟨by show _ ≤ 601024; omega, by show _ ≤ 7293034; omega⟩ (fun H locs hP hD hS => ?_)
    refine lv_istore (lv' := [(6, .int S0), (5, .int 1), (4, .int (nI n)), (3, .ref qo), (2, .ref (qm 0)), (1, .ref (qc 0)), (0, .ref b)]) hx hb nd_Law_law_1419 hl (by decide) rfl (fun ls hl => ?_)
    refine lv_aload_n hx hb nd_Law_law_1421 rfl (lv_at hl 4 rfl) ?_
    refine k_rVI (As := []) (rest := []) (r := S1) hx hb hml hown hts (cn_Model_thrown l D ca (qm 0) (qm 1) (qm 2) (qm 3) (qm 4) (qm 5) (qm 6) (qm 7) (qm 8) (qm 9) (qm 10) (qm 11) (qm 12) (qm 13) (qm 14) (qm 15) (qm 16) (qm 17) (qm 18) (qm 19) (qm 20) (qm 21) (qm 22) (qm 23) (qm 24) ((va_up i 0 S1) 0) ((va_up i 0 S1) 1) ((va_up i 0 S1) 2) ((va_up i 0 S1) 3) ((va_up i 0 S1) 4) ((va_up i 0 S1) 5) ((va_up i 0 S1) 6) ((va_up i 0 S1) 7) S1 rfl) kc_Model_thrown kv_Model_thrown tt_820 ⟨by decide, by decide⟩ rfl rfl hP hK [63] rfl 0 rfl rfl rfl rfl hl.1 (Nat.le_of_ble_eq_true rfl) rfl nd_Law_law_1422 ⟨by show _ ≤ 601024; omega, by show _ ≤ 7293034; omega⟩ ?_
    refine lv_iload hx hb nd_Law_law_1425 (lv_at hl 1 rfl) ?_
    refine lv_icmp_eq (tgt := 1432) hx hb nd_Law_law_1427 (by decide) (fun c4 => ?_) (fun c4 => ?_)
    rotate_left
    · exact absurd et c4
    refine lv_iload hx hb nd_Law_law_1432 (lv_at hl 1 rfl) ?_
    refine lv_if_ne (tgt := 1449) hx hb nd_Law_law_1434 (by decide) (fun c5 => ?_) (fun c5 => ?_)
    rotate_left
    · exact absurd c5 (by decide)
    refine lv_goto (tgt := 1452) hx hb nd_Law_law_1449 (by decide) ?_
    refine W.widen (k := 400 + n + 1) (n := 20000 + 6 * n + 6) (by omega) (by omega) ?_
    exact hnext _ _ _ _ _ _ _ _ _ _ _ hRel hP hD hS (lv_sub hl [2, 3, 4, 5, 6] rfl)
