set_option maxHeartbeats 8000000 in
set_option maxRecDepth 100000 in
theorem lc_check {p : Program} {l : Launch} {e : Env} {s : State} {m : MethodId} {below : List Frame} {meth : Method} {c : Code} {D : va_G} {ca : Nat → ClassId} {b Ls : Nat} {xs : Nat → Int32} (C0 : lw_At p s m meth c b Ls xs) (hL : Ls ≤ 2560) (hlt : l.stackTraces = false) (hev0 : xt_ev s s.heap) (hK : va_K D vwCl (tyG ca) s) {Rel : (Nat → Int32) → (Nat → Int64) → (Nat → Nat → Int32) → (Nat → Nat → Int64) → (Nat → Int32) → (Nat → Nat → Int32) → (Nat → Nat → Int64) → Prop} {qc qm : Nat → Nat} {qo : Nat} {I : Nat → Int32} {J : Nat → Int64} {A : Nat → Nat → Int32} {L : Nat → Nat → Int64} {i : Nat → Int32} {a : Nat → Nat → Int32} {l9 : Nat → Nat → Int64} {o : Nat → Int64} {n : Nat} (hn : n + 5 ≤ Ls) {H : Heap} {locs : List Loc} {ls : Array Slot} (hP : va_P D vwCl (wA qc qm qo ca I J A L i a l9 o) H) (hD : va_D (fun q : Nat => s.heap.size ≤ q) (wA qc qm qo ca I J A L i a l9 o)) (hS : va_S (fun q : Nat => s.heap.size ≤ q) s.heap H locs) (hl : lv_has ls 8 [(4, .int (nI n)), (3, .ref qo), (2, .ref (qm 0)), (1, .ref (qc 0)), (0, .ref b)]) (hst : st_check Rel I J A L i a l9 o (xs (n + 1)) (xs (n + 2))) (hnext : ∀ (I : Nat → Int32) (J : Nat → Int64) (A : Nat → Nat → Int32) (L : Nat → Nat → Int64) (i : Nat → Int32) (a : Nat → Nat → Int32) (l9 : Nat → Nat → Int64) (o : Nat → Int64) (H : Heap) (locs : List Loc) (ls : Array Slot), Rel I J A L i a l9 → va_P D vwCl (wA qc qm qo ca I J A L i a l9 o) H → va_D (fun q : Nat => s.heap.size ≤ q) (wA qc qm qo ca I J A L i a l9 o) → va_S (fun q : Nat => s.heap.size ≤ q) s.heap H locs → lv_has ls 8 [(4, .int (nI n)), (3, .ref qo), (2, .ref (qm 0)), (1, .ref (qc 0)), (0, .ref b)] → W p l e room_1 s m #[Value.ref b] below meth c H locs (400 + n + 1) (20000 + 6 * n + 6) (lw_Z below #[Value.ref b] s) (F0 m 1452 ls [])) : W p l e room_1 s m #[Value.ref b] below meth c H locs (400 + n) (20000 + 6 * n) (lw_Z below #[Value.ref b] s) (F0 m 1156 ls []) := by
  obtain ⟨hx, hb, hr, hml, hown, hts0, hX, hbl, hlocks, hgv⟩ := C0
  have hts : ∀ w ∈ TT, w.before #[Value.ref b] s = true := fun w h => hts0 w (List.mem_filter.mp h).1
  have hA : ∀ q : Nat, s.heap.size ≤ q → (fun q : Nat => s.heap.size ≤ q) q := fun _ h => h
  have hbA : ¬ (fun q : Nat => s.heap.size ≤ q) b := Nat.not_le.mpr hbl
  have hown : s.vm.findClass nR_Law = some m.cls := hown
  have hev : xt_ev s H := k_evH hev0 hS
  unfold st_check at hst
  rcases hst with ⟨R1, R2, R3, S0, S1, S2, e1, e2, et, ea, hRel⟩ | ⟨S0, S1, S2, e1, e2, et, hRel⟩ | ⟨S0, S1, S2, e1, e2, et, hRel⟩ | ⟨S0, S1, S2, e1, e2, et, hRel⟩
  ·
    refine lv_aload_n hx hb nd_Law_law_1156 rfl (lv_at hl 3 rfl) ?_
    refine lv_aload_n hx hb nd_Law_law_1157 rfl (lv_at hl 4 rfl) ?_
    refine lv_iload hx hb nd_Law_law_1158 (lv_at hl 0 rfl) ?_
    refine lv_iconst (v := 1) hx hb nd_Law_law_1160 (by decide) ?_
    refine lv_iadd hx hb nd_Law_law_1161 ?_
    refine k_sld (n := n) (j := 1) hx hb hX hbl hbA hS (k_sidx rfl) (by omega) hL nd_Law_law_1162 ?_
    refine lv_aload_n hx hb nd_Law_law_1163 rfl (lv_at hl 4 rfl) ?_
    refine lv_iload hx hb nd_Law_law_1164 (lv_at hl 0 rfl) ?_
    refine lv_iconst (v := 2) hx hb nd_Law_law_1166 (by decide) ?_
    refine lv_iadd hx hb nd_Law_law_1167 ?_
    refine k_sld (n := n) (j := 2) hx hb hX hbl hbA hS (k_sidx rfl) (by omega) hL nd_Law_law_1168 ?_
    refine k_uSWI (w2 := wA qc qm qo ca (va_up I 15 R1) J (va_up (va_up A 35 R2) 36 R3) L i a l9 o) (As := [.ref (qc 0), .int (xs (n + 1)), .int (xs (n + 2))]) (rest := []) (r := 0) hx hb hml hown hts (cn_Law_check l D ca (qc 0) (qc 1) (qc 19) (qc 34) (qc 47) (qc 48) (qc 58) (qc 59) (qc 60) (qc 61) (qc 62) (I 0) (I 15) (A 34) (A 36) (A 35) (xs (n + 1)) (xs (n + 2)) (0 : Int32) R1 R2 R3 e1 _) kc_Law_check ks_Law_check tt_616 ⟨by decide, by decide⟩ rfl rfl hP hK hD hS hA [0, 58, 60, 62, 61] rfl (by decide +kernel) rfl rfl rfl hl.1 (Nat.le_of_ble_eq_true rfl) rfl nd_Law_law_1169 ⟨by show _ ≤ 601024; omega, by show _ ≤ 7293034; omega⟩ (fun H locs hP hD hS => ?_)
    refine W.widen (k := 400 + n) (n := 20000 + 6 * n) (by omega) (by omega) ?_
    refine lv_istore (lv' := [(5, .int 0), (4, .int (nI n)), (3, .ref qo), (2, .ref (qm 0)), (1, .ref (qc 0)), (0, .ref b)]) hx hb nd_Law_law_1172 hl (by decide) rfl (fun ls hl => ?_)
    refine lv_aload_n hx hb nd_Law_law_1174 rfl (lv_at hl 3 rfl) ?_
    refine lv_aload_n hx hb nd_Law_law_1175 rfl (lv_at hl 5 rfl) ?_
    refine lv_iload hx hb nd_Law_law_1176 (lv_at hl 1 rfl) ?_
    refine lv_iconst (v := 1) hx hb nd_Law_law_1178 (by decide) ?_
    refine lv_iadd hx hb nd_Law_law_1179 ?_
    refine k_sld (n := n) (j := 1) hx hb hX hbl hbA hS (k_sidx rfl) (by omega) hL nd_Law_law_1180 ?_
    refine lv_aload_n hx hb nd_Law_law_1181 rfl (lv_at hl 5 rfl) ?_
    refine lv_iload hx hb nd_Law_law_1182 (lv_at hl 1 rfl) ?_
    refine lv_iconst (v := 2) hx hb nd_Law_law_1184 (by decide) ?_
    refine lv_iadd hx hb nd_Law_law_1185 ?_
    refine k_sld (n := n) (j := 2) hx hb hX hbl hbA hS (k_sidx rfl) (by omega) hL nd_Law_law_1186 ?_
    refine k_uVV (w2 := wA qc qm qo ca (va_up I 15 R1) J (va_up (va_up A 35 R2) 36 R3) L (va_up i 0 S0) (va_up (va_up a 18 S1) 19 S2) l9 o) (As := [.int (xs (n + 1)), .int (xs (n + 2))]) (rest := []) hx hb hml hown hts (cn_Model_check l D ca (qm 0) (qm 1) (qm 2) (qm 3) (qm 4) (qm 5) (qm 6) (qm 7) (qm 8) (qm 9) (qm 10) (qm 11) (qm 12) (qm 13) (qm 14) (qm 15) (qm 16) (qm 17) (qm 18) (qm 19) (qm 20) (qm 21) (qm 22) (qm 23) (qm 24) (i 0) (i 1) (i 2) (i 3) (i 4) (i 5) (i 6) (i 7) (a 17) (a 18) (a 19) (xs (n + 1)) (xs (n + 2)) S0 S1 S2 e2 _) kc_Model_check kv_Model_check tt_977 ⟨by decide, by decide⟩ rfl rfl hP hK hD hS hA [63, 85, 86, 87] rfl (by decide +kernel) rfl rfl 0 rfl rfl rfl rfl hl.1 (Nat.le_of_ble_eq_true rfl) rfl nd_Law_law_1187 ⟨by show _ ≤ 601024; omega, by show _ ≤ 7293034; omega⟩ (fun H locs hP hD hS => ?_)
    refine lv_aload_n hx hb nd_Law_law_1190 rfl (lv_at hl 3 rfl) ?_
    refine k_rVI (As := []) (rest := []) (r := S0) hx hb hml hown hts (cn_Model_thrown l D ca (qm 0) (qm 1) (qm 2) (qm 3) (qm 4) (qm 5) (qm 6) (qm 7) (qm 8) (qm 9) (qm 10) (qm 11) (qm 12) (qm 13) (qm 14) (qm 15) (qm 16) (qm 17) (qm 18) (qm 19) (qm 20) (qm 21) (qm 22) (qm 23) (qm 24) ((va_up i 0 S0) 0) ((va_up i 0 S0) 1) ((va_up i 0 S0) 2) ((va_up i 0 S0) 3) ((va_up i 0 S0) 4) ((va_up i 0 S0) 5) ((va_up i 0 S0) 6) ((va_up i 0 S0) 7) S0 rfl) kc_Model_thrown kv_Model_thrown tt_820 ⟨by decide, by decide⟩ rfl rfl hP hK [63] rfl 0 rfl rfl rfl rfl hl.1 (Nat.le_of_ble_eq_true rfl) rfl nd_Law_law_1191 ⟨by show _ ≤ 601024; omega, by show _ ≤ 7293034; omega⟩ ?_
    refine lv_iload hx hb nd_Law_law_1194 (lv_at hl 0 rfl) ?_
    refine lv_icmp_eq (tgt := 1201) hx hb nd_Law_law_1196 (by decide) (fun c1 => ?_) (fun c1 => ?_)
    rotate_left
    · exact absurd et c1
    refine lv_goto (tgt := 1452) hx hb nd_Law_law_1201 (by decide) ?_
    refine W.widen (k := 400 + n + 1) (n := 20000 + 6 * n + 6) (by omega) (by omega) ?_
    exact hnext _ _ _ _ _ _ _ _ _ _ _ hRel hP hD hS (lv_sub hl [1, 2, 3, 4, 5] rfl)
  ·
    refine lv_aload_n hx hb nd_Law_law_1156 rfl (lv_at hl 3 rfl) ?_
    refine lv_aload_n hx hb nd_Law_law_1157 rfl (lv_at hl 4 rfl) ?_
    refine lv_iload hx hb nd_Law_law_1158 (lv_at hl 0 rfl) ?_
    refine lv_iconst (v := 1) hx hb nd_Law_law_1160 (by decide) ?_
    refine lv_iadd hx hb nd_Law_law_1161 ?_
    refine k_sld (n := n) (j := 1) hx hb hX hbl hbA hS (k_sidx rfl) (by omega) hL nd_Law_law_1162 ?_
    refine lv_aload_n hx hb nd_Law_law_1163 rfl (lv_at hl 4 rfl) ?_
    refine lv_iload hx hb nd_Law_law_1164 (lv_at hl 0 rfl) ?_
    refine lv_iconst (v := 2) hx hb nd_Law_law_1166 (by decide) ?_
    refine lv_iadd hx hb nd_Law_law_1167 ?_
    refine k_sld (n := n) (j := 2) hx hb hX hbl hbA hS (k_sidx rfl) (by omega) hL nd_Law_law_1168 ?_
    refine k_uSWX (w2 := wA qc qm qo ca I J A L i a l9 o) (As := [.ref (qc 0), .int (xs (n + 1)), .int (xs (n + 2))]) (rest := []) (r := 1) hx hb hml hown hts (hx_Law_check_1 l hlt D ca (qc 0) (qc 1) (qc 19) (qc 34) (qc 47) (qc 48) (qc 58) (qc 59) (qc 60) (qc 61) (qc 62) (I 0) (I 15) (A 34) (A 36) (A 35) (xs (n + 1)) (xs (n + 2)) e1 _) kc_Law_check ks_Law_check tt_616 ⟨by decide, by decide⟩ rfl rfl hP hK hD hS hA hev [0, 58, 60, 62, 61] rfl (by decide +kernel) rfl rfl rfl hl.1 (Nat.le_of_ble_eq_true rfl) rfl nd_Law_law_1169 ⟨by show _ ≤ 601024; omega, by show _ ≤ 7293034; omega⟩ (fun H locs hP hD hS => ?_)
    refine W.widen (k := 400 + n + 1) (n := 20000 + 6 * n + 6) (by omega) (by omega) ?_
    refine lv_istore (lv' := [(5, .int 1), (4, .int (nI n)), (3, .ref qo), (2, .ref (qm 0)), (1, .ref (qc 0)), (0, .ref b)]) hx hb nd_Law_law_1172 hl (by decide) rfl (fun ls hl => ?_)
    refine lv_aload_n hx hb nd_Law_law_1174 rfl (lv_at hl 3 rfl) ?_
    refine lv_aload_n hx hb nd_Law_law_1175 rfl (lv_at hl 5 rfl) ?_
    refine lv_iload hx hb nd_Law_law_1176 (lv_at hl 1 rfl) ?_
    refine lv_iconst (v := 1) hx hb nd_Law_law_1178 (by decide) ?_
    refine lv_iadd hx hb nd_Law_law_1179 ?_
    refine k_sld (n := n) (j := 1) hx hb hX hbl hbA hS (k_sidx rfl) (by omega) hL nd_Law_law_1180 ?_
    refine lv_aload_n hx hb nd_Law_law_1181 rfl (lv_at hl 5 rfl) ?_
    refine lv_iload hx hb nd_Law_law_1182 (lv_at hl 1 rfl) ?_
    refine lv_iconst (v := 2) hx hb nd_Law_law_1184 (by decide) ?_
    refine lv_iadd hx hb nd_Law_law_1185 ?_
    refine k_sld (n := n) (j := 2) hx hb hX hbl hbA hS (k_sidx rfl) (by omega) hL nd_Law_law_1186 ?_
    refine k_uVV (w2 := wA qc qm qo ca I J A L (va_up i 0 S0) (va_up (va_up a 18 S1) 19 S2) l9 o) (As := [.int (xs (n + 1)), .int (xs (n + 2))]) (rest := []) hx hb hml hown hts (cn_Model_check l D ca (qm 0) (qm 1) (qm 2) (qm 3) (qm 4) (qm 5) (qm 6) (qm 7) (qm 8) (qm 9) (qm 10) (qm 11) (qm 12) (qm 13) (qm 14) (qm 15) (qm 16) (qm 17) (qm 18) (qm 19) (qm 20) (qm 21) (qm 22) (qm 23) (qm 24) (i 0) (i 1) (i 2) (i 3) (i 4) (i 5) (i 6) (i 7) (a 17) (a 18) (a 19) (xs (n + 1)) (xs (n + 2)) S0 S1 S2 e2 _) kc_Model_check kv_Model_check tt_977 ⟨by decide, by decide⟩ rfl rfl hP hK hD hS hA [63, 85, 86, 87] rfl (by decide +kernel) rfl rfl 0 rfl rfl rfl rfl hl.1 (Nat.le_of_ble_eq_true rfl) rfl nd_Law_law_1187 ⟨by show _ ≤ 601024; omega, by show _ ≤ 7293034; omega⟩ (fun H locs hP hD hS => ?_)
    refine lv_aload_n hx hb nd_Law_law_1190 rfl (lv_at hl 3 rfl) ?_
    refine k_rVI (As := []) (rest := []) (r := S0) hx hb hml hown hts (cn_Model_thrown l D ca (qm 0) (qm 1) (qm 2) (qm 3) (qm 4) (qm 5) (qm 6) (qm 7) (qm 8) (qm 9) (qm 10) (qm 11) (qm 12) (qm 13) (qm 14) (qm 15) (qm 16) (qm 17) (qm 18) (qm 19) (qm 20) (qm 21) (qm 22) (qm 23) (qm 24) ((va_up i 0 S0) 0) ((va_up i 0 S0) 1) ((va_up i 0 S0) 2) ((va_up i 0 S0) 3) ((va_up i 0 S0) 4) ((va_up i 0 S0) 5) ((va_up i 0 S0) 6) ((va_up i 0 S0) 7) S0 rfl) kc_Model_thrown kv_Model_thrown tt_820 ⟨by decide, by decide⟩ rfl rfl hP hK [63] rfl 0 rfl rfl rfl rfl hl.1 (Nat.le_of_ble_eq_true rfl) rfl nd_Law_law_1191 ⟨by show _ ≤ 601024; omega, by show _ ≤ 7293034; omega⟩ ?_
    refine lv_iload hx hb nd_Law_law_1194 (lv_at hl 0 rfl) ?_
    refine lv_icmp_eq (tgt := 1201) hx hb nd_Law_law_1196 (by decide) (fun c2 => ?_) (fun c2 => ?_)
    rotate_left
    · exact absurd et c2
    refine lv_goto (tgt := 1452) hx hb nd_Law_law_1201 (by decide) ?_
    refine W.widen (k := 400 + n + 1) (n := 20000 + 6 * n + 6) (by omega) (by omega) ?_
    exact hnext _ _ _ _ _ _ _ _ _ _ _ hRel hP hD hS (lv_sub hl [1, 2, 3, 4, 5] rfl)
  ·
    refine lv_aload_n hx hb nd_Law_law_1156 rfl (lv_at hl 3 rfl) ?_
    refine lv_aload_n hx hb nd_Law_law_1157 rfl (lv_at hl 4 rfl) ?_
    refine lv_iload hx hb nd_Law_law_1158 (lv_at hl 0 rfl) ?_
    refine lv_iconst (v := 1) hx hb nd_Law_law_1160 (by decide) ?_
    refine lv_iadd hx hb nd_Law_law_1161 ?_
    refine k_sld (n := n) (j := 1) hx hb hX hbl hbA hS (k_sidx rfl) (by omega) hL nd_Law_law_1162 ?_
    refine lv_aload_n hx hb nd_Law_law_1163 rfl (lv_at hl 4 rfl) ?_
    refine lv_iload hx hb nd_Law_law_1164 (lv_at hl 0 rfl) ?_
    refine lv_iconst (v := 2) hx hb nd_Law_law_1166 (by decide) ?_
    refine lv_iadd hx hb nd_Law_law_1167 ?_
    refine k_sld (n := n) (j := 2) hx hb hX hbl hbA hS (k_sidx rfl) (by omega) hL nd_Law_law_1168 ?_
    refine k_uSWX (w2 := wA qc qm qo ca I J A L i a l9 o) (As := [.ref (qc 0), .int (xs (n + 1)), .int (xs (n + 2))]) (rest := []) (r := 2) hx hb hml hown hts (hx_Law_check_2 l hlt D ca (qc 0) (qc 1) (qc 19) (qc 34) (qc 47) (qc 48) (qc 58) (qc 59) (qc 60) (qc 61) (qc 62) (I 0) (I 15) (A 34) (A 36) (A 35) (xs (n + 1)) (xs (n + 2)) e1 _) kc_Law_check ks_Law_check tt_616 ⟨by decide, by decide⟩ rfl rfl hP hK hD hS hA hev [0, 58, 60, 62, 61] rfl (by decide +kernel) rfl rfl rfl hl.1 (Nat.le_of_ble_eq_true rfl) rfl nd_Law_law_1169 ⟨by show _ ≤ 601024; omega, by show _ ≤ 7293034; omega⟩ (fun H locs hP hD hS => ?_)
    refine W.widen (k := 400 + n + 1) (n := 20000 + 6 * n + 6) (by omega) (by omega) ?_
    refine lv_istore (lv' := [(5, .int 2), (4, .int (nI n)), (3, .ref qo), (2, .ref (qm 0)), (1, .ref (qc 0)), (0, .ref b)]) hx hb nd_Law_law_1172 hl (by decide) rfl (fun ls hl => ?_)
    refine lv_aload_n hx hb nd_Law_law_1174 rfl (lv_at hl 3 rfl) ?_
    refine lv_aload_n hx hb nd_Law_law_1175 rfl (lv_at hl 5 rfl) ?_
    refine lv_iload hx hb nd_Law_law_1176 (lv_at hl 1 rfl) ?_
    refine lv_iconst (v := 1) hx hb nd_Law_law_1178 (by decide) ?_
    refine lv_iadd hx hb nd_Law_law_1179 ?_
    refine k_sld (n := n) (j := 1) hx hb hX hbl hbA hS (k_sidx rfl) (by omega) hL nd_Law_law_1180 ?_
    refine lv_aload_n hx hb nd_Law_law_1181 rfl (lv_at hl 5 rfl) ?_
    refine lv_iload hx hb nd_Law_law_1182 (lv_at hl 1 rfl) ?_
    refine lv_iconst (v := 2) hx hb nd_Law_law_1184 (by decide) ?_
    refine lv_iadd hx hb nd_Law_law_1185 ?_
    refine k_sld (n := n) (j := 2) hx hb hX hbl hbA hS (k_sidx rfl) (by omega) hL nd_Law_law_1186 ?_
    refine k_uVV (w2 := wA qc qm qo ca I J A L (va_up i 0 S0) (va_up (va_up a 18 S1) 19 S2) l9 o) (As := [.int (xs (n + 1)), .int (xs (n + 2))]) (rest := []) hx hb hml hown hts (cn_Model_check l D ca (qm 0) (qm 1) (qm 2) (qm 3) (qm 4) (qm 5) (qm 6) (qm 7) (qm 8) (qm 9) (qm 10) (qm 11) (qm 12) (qm 13) (qm 14) (qm 15) (qm 16) (qm 17) (qm 18) (qm 19) (qm 20) (qm 21) (qm 22) (qm 23) (qm 24) (i 0) (i 1) (i 2) (i 3) (i 4) (i 5) (i 6) (i 7) (a 17) (a 18) (a 19) (xs (n + 1)) (xs (n + 2)) S0 S1 S2 e2 _) kc_Model_check kv_Model_check tt_977 ⟨by decide, by decide⟩ rfl rfl hP hK hD hS hA [63, 85, 86, 87] rfl (by decide +kernel) rfl rfl 0 rfl rfl rfl rfl hl.1 (Nat.le_of_ble_eq_true rfl) rfl nd_Law_law_1187 ⟨by show _ ≤ 601024; omega, by show _ ≤ 7293034; omega⟩ (fun H locs hP hD hS => ?_)
    refine lv_aload_n hx hb nd_Law_law_1190 rfl (lv_at hl 3 rfl) ?_
    refine k_rVI (As := []) (rest := []) (r := S0) hx hb hml hown hts (cn_Model_thrown l D ca (qm 0) (qm 1) (qm 2) (qm 3) (qm 4) (qm 5) (qm 6) (qm 7) (qm 8) (qm 9) (qm 10) (qm 11) (qm 12) (qm 13) (qm 14) (qm 15) (qm 16) (qm 17) (qm 18) (qm 19) (qm 20) (qm 21) (qm 22) (qm 23) (qm 24) ((va_up i 0 S0) 0) ((va_up i 0 S0) 1) ((va_up i 0 S0) 2) ((va_up i 0 S0) 3) ((va_up i 0 S0) 4) ((va_up i 0 S0) 5) ((va_up i 0 S0) 6) ((va_up i 0 S0) 7) S0 rfl) kc_Model_thrown kv_Model_thrown tt_820 ⟨by decide, by decide⟩ rfl rfl hP hK [63] rfl 0 rfl rfl rfl rfl hl.1 (Nat.le_of_ble_eq_true rfl) rfl nd_Law_law_1191 ⟨by show _ ≤ 601024; omega, by show _ ≤ 7293034; omega⟩ ?_
    refine lv_iload hx hb nd_Law_law_1194 (lv_at hl 0 rfl) ?_
    refine lv_icmp_eq (tgt := 1201) hx hb nd_Law_law_1196 (by decide) (fun c3 => ?_) (fun c3 => ?_)
    rotate_left
    · exact absurd et c3
    refine lv_goto (tgt := 1452) hx hb nd_Law_law_1201 (by decide) ?_
    refine W.widen (k := 400 + n + 1) (n := 20000 + 6 * n + 6) (by omega) (by omega) ?_
    exact hnext _ _ _ _ _ _ _ _ _ _ _ hRel hP hD hS (lv_sub hl [1, 2, 3, 4, 5] rfl)
  ·
    refine lv_aload_n hx hb nd_Law_law_1156 rfl (lv_at hl 3 rfl) ?_
    refine lv_aload_n hx hb nd_Law_law_1157 rfl (lv_at hl 4 rfl) ?_
    refine lv_iload hx hb nd_Law_law_1158 (lv_at hl 0 rfl) ?_
    refine lv_iconst (v := 1) hx hb nd_Law_law_1160 (by decide) ?_
    refine lv_iadd hx hb nd_Law_law_1161 ?_
    refine k_sld (n := n) (j := 1) hx hb hX hbl hbA hS (k_sidx rfl) (by omega) hL nd_Law_law_1162 ?_
    refine lv_aload_n hx hb nd_Law_law_1163 rfl (lv_at hl 4 rfl) ?_
    refine lv_iload hx hb nd_Law_law_1164 (lv_at hl 0 rfl) ?_
    refine lv_iconst (v := 2) hx hb nd_Law_law_1166 (by decide) ?_
    refine lv_iadd hx hb nd_Law_law_1167 ?_
    refine k_sld (n := n) (j := 2) hx hb hX hbl hbA hS (k_sidx rfl) (by omega) hL nd_Law_law_1168 ?_
    refine k_uSWX (w2 := wA qc qm qo ca I J A L i a l9 o) (As := [.ref (qc 0), .int (xs (n + 1)), .int (xs (n + 2))]) (rest := []) (r := 3) hx hb hml hown hts (hx_Law_check_3 l hlt D ca (qc 0) (qc 1) (qc 19) (qc 34) (qc 47) (qc 48) (qc 58) (qc 59) (qc 60) (qc 61) (qc 62) (I 0) (I 15) (A 34) (A 36) (A 35) (xs (n + 1)) (xs (n + 2)) e1 _) kc_Law_check ks_Law_check tt_616 ⟨by decide, by decide⟩ rfl rfl hP hK hD hS hA hev [0, 58, 60, 62, 61] rfl (by decide +kernel) rfl rfl rfl hl.1 (Nat.le_of_ble_eq_true rfl) rfl nd_Law_law_1169 ⟨by show _ ≤ 601024; omega, by show _ ≤ 7293034; omega⟩ (fun H locs hP hD hS => ?_)
    refine W.widen (k := 400 + n + 1) (n := 20000 + 6 * n + 6) (by omega) (by omega) ?_
    refine lv_istore (lv' := [(5, .int 3), (4, .int (nI n)), (3, .ref qo), (2, .ref (qm 0)), (1, .ref (qc 0)), (0, .ref b)]) hx hb nd_Law_law_1172 hl (by decide) rfl (fun ls hl => ?_)
    refine lv_aload_n hx hb nd_Law_law_1174 rfl (lv_at hl 3 rfl) ?_
    refine lv_aload_n hx hb nd_Law_law_1175 rfl (lv_at hl 5 rfl) ?_
    refine lv_iload hx hb nd_Law_law_1176 (lv_at hl 1 rfl) ?_
    refine lv_iconst (v := 1) hx hb nd_Law_law_1178 (by decide) ?_
    refine lv_iadd hx hb nd_Law_law_1179 ?_
    refine k_sld (n := n) (j := 1) hx hb hX hbl hbA hS (k_sidx rfl) (by omega) hL nd_Law_law_1180 ?_
    refine lv_aload_n hx hb nd_Law_law_1181 rfl (lv_at hl 5 rfl) ?_
    refine lv_iload hx hb nd_Law_law_1182 (lv_at hl 1 rfl) ?_
    refine lv_iconst (v := 2) hx hb nd_Law_law_1184 (by decide) ?_
    refine lv_iadd hx hb nd_Law_law_1185 ?_
    refine k_sld (n := n) (j := 2) hx hb hX hbl hbA hS (k_sidx rfl) (by omega) hL nd_Law_law_1186 ?_
    refine k_uVV (w2 := wA qc qm qo ca I J A L (va_up i 0 S0) (va_up (va_up a 18 S1) 19 S2) l9 o) (As := [.int (xs (n + 1)), .int (xs (n + 2))]) (rest := []) hx hb hml hown hts (cn_Model_check l D ca (qm 0) (qm 1) (qm 2) (qm 3) (qm 4) (qm 5) (qm 6) (qm 7) (qm 8) (qm 9) (qm 10) (qm 11) (qm 12) (qm 13) (qm 14) (qm 15) (qm 16) (qm 17) (qm 18) (qm 19) (qm 20) (qm 21) (qm 22) (qm 23) (qm 24) (i 0) (i 1) (i 2) (i 3) (i 4) (i 5) (i 6) (i 7) (a 17) (a 18) (a 19) (xs (n + 1)) (xs (n + 2)) S0 S1 S2 e2 _) kc_Model_check kv_Model_check tt_977 ⟨by decide, by decide⟩ rfl rfl hP hK hD hS hA [63, 85, 86, 87] rfl (by decide +kernel) rfl rfl 0 rfl rfl rfl rfl hl.1 (Nat.le_of_ble_eq_true rfl) rfl nd_Law_law_1187 ⟨by show _ ≤ 601024; omega, by show _ ≤ 7293034; omega⟩ (fun H locs hP hD hS => ?_)
    refine lv_aload_n hx hb nd_Law_law_1190 rfl (lv_at hl 3 rfl) ?_
    refine k_rVI (As := []) (rest := []) (r := S0) hx hb hml hown hts (cn_Model_thrown l D ca (qm 0) (qm 1) (qm 2) (qm 3) (qm 4) (qm 5) (qm 6) (qm 7) (qm 8) (qm 9) (qm 10) (qm 11) (qm 12) (qm 13) (qm 14) (qm 15) (qm 16) (qm 17) (qm 18) (qm 19) (qm 20) (qm 21) (qm 22) (qm 23) (qm 24) ((va_up i 0 S0) 0) ((va_up i 0 S0) 1) ((va_up i 0 S0) 2) ((va_up i 0 S0) 3) ((va_up i 0 S0) 4) ((va_up i 0 S0) 5) ((va_up i 0 S0) 6) ((va_up i 0 S0) 7) S0 rfl) kc_Model_thrown kv_Model_thrown tt_820 ⟨by decide, by decide⟩ rfl rfl hP hK [63] rfl 0 rfl rfl rfl rfl hl.1 (Nat.le_of_ble_eq_true rfl) rfl nd_Law_law_1191 ⟨by show _ ≤ 601024; omega, by show _ ≤ 7293034; omega⟩ ?_
    refine lv_iload hx hb nd_Law_law_1194 (lv_at hl 0 rfl) ?_
    refine lv_icmp_eq (tgt := 1201) hx hb nd_Law_law_1196 (by decide) (fun c4 => ?_) (fun c4 => ?_)
    rotate_left
    · exact absurd et c4
    refine lv_goto (tgt := 1452) hx hb nd_Law_law_1201 (by decide) ?_
    refine W.widen (k := 400 + n + 1) (n := 20000 + 6 * n + 6) (by omega) (by omega) ?_
    exact hnext _ _ _ _ _ _ _ _ _ _ _ hRel hP hD hS (lv_sub hl [1, 2, 3, 4, 5] rfl)
set_option maxHeartbeats 8000000 in
set_option maxRecDepth 100000 in
theorem lc_corrected {p : Program} {l : Launch} {e : Env} {s : State} {m : MethodId} {below : List Frame} {meth : Method} {c : Code} {D : va_G} {ca : Nat → ClassId} {b Ls : Nat} {xs : Nat → Int32} (C0 : lw_At p s m meth c b Ls xs) (hL : Ls ≤ 2560) (hlt : l.stackTraces = false) (hev0 : xt_ev s s.heap) (hK : va_K D vwCl (tyG ca) s) {Rel : (Nat → Int32) → (Nat → Int64) → (Nat → Nat → Int32) → (Nat → Nat → Int64) → (Nat → Int32) → (Nat → Nat → Int32) → (Nat → Nat → Int64) → Prop} {qc qm : Nat → Nat} {qo : Nat} {I : Nat → Int32} {J : Nat → Int64} {A : Nat → Nat → Int32} {L : Nat → Nat → Int64} {i : Nat → Int32} {a : Nat → Nat → Int32} {l9 : Nat → Nat → Int64} {o : Nat → Int64} {n : Nat} (hn : n + 5 ≤ Ls) {H : Heap} {locs : List Loc} {ls : Array Slot} (hP : va_P D vwCl (wA qc qm qo ca I J A L i a l9 o) H) (hD : va_D (fun q : Nat => s.heap.size ≤ q) (wA qc qm qo ca I J A L i a l9 o)) (hS : va_S (fun q : Nat => s.heap.size ≤ q) s.heap H locs) (hl : lv_has ls 8 [(4, .int (nI n)), (3, .ref qo), (2, .ref (qm 0)), (1, .ref (qc 0)), (0, .ref b)]) (hst : st_corrected Rel I J A L i a l9 o (xs (n + 1))) (hnext : ∀ (I : Nat → Int32) (J : Nat → Int64) (A : Nat → Nat → Int32) (L : Nat → Nat → Int64) (i : Nat → Int32) (a : Nat → Nat → Int32) (l9 : Nat → Nat → Int64) (o : Nat → Int64) (H : Heap) (locs : List Loc) (ls : Array Slot), Rel I J A L i a l9 → va_P D vwCl (wA qc qm qo ca I J A L i a l9 o) H → va_D (fun q : Nat => s.heap.size ≤ q) (wA qc qm qo ca I J A L i a l9 o) → va_S (fun q : Nat => s.heap.size ≤ q) s.heap H locs → lv_has ls 8 [(4, .int (nI n)), (3, .ref qo), (2, .ref (qm 0)), (1, .ref (qc 0)), (0, .ref b)] → W p l e room_1 s m #[Value.ref b] below meth c H locs (400 + n + 1) (20000 + 6 * n + 6) (lw_Z below #[Value.ref b] s) (F0 m 1452 ls [])) : W p l e room_1 s m #[Value.ref b] below meth c H locs (400 + n) (20000 + 6 * n) (lw_Z below #[Value.ref b] s) (F0 m 1204 ls []) := by
  obtain ⟨hx, hb, hr, hml, hown, hts0, hX, hbl, hlocks, hgv⟩ := C0
  have hts : ∀ w ∈ TT, w.before #[Value.ref b] s = true := fun w h => hts0 w (List.mem_filter.mp h).1
  have hA : ∀ q : Nat, s.heap.size ≤ q → (fun q : Nat => s.heap.size ≤ q) q := fun _ h => h
  have hbA : ¬ (fun q : Nat => s.heap.size ≤ q) b := Nat.not_le.mpr hbl
  have hown : s.vm.findClass nR_Law = some m.cls := hown
  have hev : xt_ev s H := k_evH hev0 hS
  unfold st_corrected at hst
  rcases hst with ⟨R1, S0, S1, e1, e2, et, ea, hRel⟩ | ⟨S0, S1, e1, e2, et, hRel⟩
  ·
    refine lv_aload_n hx hb nd_Law_law_1204 rfl (lv_at hl 3 rfl) ?_
    refine lv_aload_n hx hb nd_Law_law_1205 rfl (lv_at hl 4 rfl) ?_
    refine lv_iload hx hb nd_Law_law_1206 (lv_at hl 0 rfl) ?_
    refine lv_iconst (v := 1) hx hb nd_Law_law_1208 (by decide) ?_
    refine lv_iadd hx hb nd_Law_law_1209 ?_
    refine k_sld (n := n) (j := 1) hx hb hX hbl hbA hS (k_sidx rfl) (by omega) hL nd_Law_law_1210 ?_
    refine lv_aload_n hx hb nd_Law_law_1211 rfl (lv_at hl 1 rfl) ?_
    refine k_uSWI (w2 := wA qc qm qo ca I J A L i a l9 R1) (As := [.ref (qc 0), .int (xs (n + 1)), .ref qo]) (rest := []) (r := 0) hx hb hml hown hts (cn_Law_corrected l D ca (qc 0) (qc 1) (qc 19) (qc 34) (qc 47) (qc 48) (qc 58) (qc 59) (qc 60) (qc 61) (qc 62) qo (I 0) (I 15) (A 34) (A 33) (A 36) (A 35) o (xs (n + 1)) (0 : Int32) R1 e1 _) kc_Law_corrected ks_Law_corrected tt_628 ⟨by decide, by decide⟩ rfl rfl hP hK hD hS hA [0, 58, 60, 59, 62, 61, 88] rfl (by decide +kernel) rfl rfl rfl hl.1 (Nat.le_of_ble_eq_true rfl) rfl nd_Law_law_1212 ⟨by show _ ≤ 601024; omega, by show _ ≤ 7293034; omega⟩ (fun H locs hP hD hS => ?_)
    refine W.widen (k := 400 + n) (n := 20000 + 6 * n) (by omega) (by omega) ?_
    refine lv_istore (lv' := [(5, .int 0), (4, .int (nI n)), (3, .ref qo), (2, .ref (qm 0)), (1, .ref (qc 0)), (0, .ref b)]) hx hb nd_Law_law_1215 hl (by decide) rfl (fun ls hl => ?_)
    refine lv_aload_n hx hb nd_Law_law_1217 rfl (lv_at hl 3 rfl) ?_
    refine lv_aload_n hx hb nd_Law_law_1218 rfl (lv_at hl 5 rfl) ?_
    refine lv_iload hx hb nd_Law_law_1219 (lv_at hl 1 rfl) ?_
    refine lv_iconst (v := 1) hx hb nd_Law_law_1221 (by decide) ?_
    refine lv_iadd hx hb nd_Law_law_1222 ?_
    refine k_sld (n := n) (j := 1) hx hb hX hbl hbA hS (k_sidx rfl) (by omega) hL nd_Law_law_1223 ?_
    refine k_uVI (w2 := wA qc qm qo ca I J A L (va_up i 0 S1) a l9 R1) (As := [.int (xs (n + 1))]) (rest := []) (r := S0) hx hb hml hown hts (cn_Model_corrected l D ca (qm 0) (qm 1) (qm 2) (qm 3) (qm 4) (qm 5) (qm 6) (qm 7) (qm 8) (qm 9) (qm 10) (qm 11) (qm 12) (qm 13) (qm 14) (qm 15) (qm 16) (qm 17) (qm 18) (qm 19) (qm 20) (qm 21) (qm 22) (qm 23) (qm 24) (i 0) (i 1) (i 2) (i 3) (i 4) (i 5) (i 6) (i 7) (a 17) (a 18) (a 19) (xs (n + 1)) S0 S1 e2 _) kc_Model_corrected kv_Model_corrected tt_981 ⟨by decide, by decide⟩ rfl rfl hP hK hD hS hA [63, 85, 86, 87] rfl (by decide +kernel) rfl rfl 0 rfl rfl rfl rfl hl.1 (Nat.le_of_ble_eq_true rfl) rfl nd_Law_law_1224 ⟨by show _ ≤ 601024; omega, by show _ ≤ 7293034; omega⟩ (fun H locs hP hD hS => ?_)
    refine lv_istore (lv' := [(6, .int S0), (5, .int 0), (4, .int (nI n)), (3, .ref qo), (2, .ref (qm 0)), (1, .ref (qc 0)), (0, .ref b)]) hx hb nd_Law_law_1227 hl (by decide) rfl (fun ls hl => ?_)
    refine lv_aload_n hx hb nd_Law_law_1229 rfl (lv_at hl 4 rfl) ?_
    refine k_rVI (As := []) (rest := []) (r := S1) hx hb hml hown hts (cn_Model_thrown l D ca (qm 0) (qm 1) (qm 2) (qm 3) (qm 4) (qm 5) (qm 6) (qm 7) (qm 8) (qm 9) (qm 10) (qm 11) (qm 12) (qm 13) (qm 14) (qm 15) (qm 16) (qm 17) (qm 18) (qm 19) (qm 20) (qm 21) (qm 22) (qm 23) (qm 24) ((va_up i 0 S1) 0) ((va_up i 0 S1) 1) ((va_up i 0 S1) 2) ((va_up i 0 S1) 3) ((va_up i 0 S1) 4) ((va_up i 0 S1) 5) ((va_up i 0 S1) 6) ((va_up i 0 S1) 7) S1 rfl) kc_Model_thrown kv_Model_thrown tt_820 ⟨by decide, by decide⟩ rfl rfl hP hK [63] rfl 0 rfl rfl rfl rfl hl.1 (Nat.le_of_ble_eq_true rfl) rfl nd_Law_law_1230 ⟨by show _ ≤ 601024; omega, by show _ ≤ 7293034; omega⟩ ?_
    refine lv_iload hx hb nd_Law_law_1233 (lv_at hl 1 rfl) ?_
    refine lv_icmp_eq (tgt := 1240) hx hb nd_Law_law_1235 (by decide) (fun c1 => ?_) (fun c1 => ?_)
    rotate_left
    · exact absurd et c1
    refine lv_iload hx hb nd_Law_law_1240 (lv_at hl 1 rfl) ?_
    refine lv_if_ne (tgt := 1257) hx hb nd_Law_law_1242 (by decide) (fun c2 => ?_) (fun c2 => ?_)
    · exact absurd rfl c2
    refine lv_aload_n hx hb nd_Law_law_1245 rfl (lv_at hl 3 rfl) ?_
    refine lv_iconst (v := 0) hx hb nd_Law_law_1246 (by decide) ?_
    refine va_lald hx hb hK hP 88 1 rfl rfl (by unfold vp_in; decide) nd_Law_law_1247 ?_
    refine lv_iload hx hb nd_Law_law_1248 (lv_at hl 0 rfl) ?_
    refine lv_i2l hx hb nd_Law_law_1250 rfl ?_
    refine W.lcmp hx hb nd_Law_law_1251 ?_
    refine lv_if_eq (tgt := 1257) hx hb nd_Law_law_1252 (by decide) (fun c3 => ?_) (fun c3 => ?_)
    rotate_left
    · exact absurd ea c3
    refine lv_goto (tgt := 1452) hx hb nd_Law_law_1257 (by decide) ?_
    refine W.widen (k := 400 + n + 1) (n := 20000 + 6 * n + 6) (by omega) (by omega) ?_
    exact hnext _ _ _ _ _ _ _ _ _ _ _ hRel hP hD hS (lv_sub hl [2, 3, 4, 5, 6] rfl)
  ·
    refine lv_aload_n hx hb nd_Law_law_1204 rfl (lv_at hl 3 rfl) ?_
    refine lv_aload_n hx hb nd_Law_law_1205 rfl (lv_at hl 4 rfl) ?_
    refine lv_iload hx hb nd_Law_law_1206 (lv_at hl 0 rfl) ?_
    refine lv_iconst (v := 1) hx hb nd_Law_law_1208 (by decide) ?_
    refine lv_iadd hx hb nd_Law_law_1209 ?_
    refine k_sld (n := n) (j := 1) hx hb hX hbl hbA hS (k_sidx rfl) (by omega) hL nd_Law_law_1210 ?_
    refine lv_aload_n hx hb nd_Law_law_1211 rfl (lv_at hl 1 rfl) ?_
    refine k_uSWX (w2 := wA qc qm qo ca I J A L i a l9 o) (As := [.ref (qc 0), .int (xs (n + 1)), .ref qo]) (rest := []) (r := 1) hx hb hml hown hts (hx_Law_corrected_1 l hlt D ca (qc 0) (qc 1) (qc 19) (qc 34) (qc 47) (qc 48) (qc 58) (qc 59) (qc 60) (qc 61) (qc 62) qo (I 0) (I 15) (A 34) (A 33) (A 36) (A 35) o (xs (n + 1)) e1 _) kc_Law_corrected ks_Law_corrected tt_628 ⟨by decide, by decide⟩ rfl rfl hP hK hD hS hA hev [0, 58, 60, 59, 62, 61, 88] rfl (by decide +kernel) rfl rfl rfl hl.1 (Nat.le_of_ble_eq_true rfl) rfl nd_Law_law_1212 ⟨by show _ ≤ 601024; omega, by show _ ≤ 7293034; omega⟩ (fun H locs hP hD hS => ?_)
    refine W.widen (k := 400 + n + 1) (n := 20000 + 6 * n + 6) (by omega) (by omega) ?_
    refine lv_istore (lv' := [(5, .int 1), (4, .int (nI n)), (3, .ref qo), (2, .ref (qm 0)), (1, .ref (qc 0)), (0, .ref b)]) hx hb nd_Law_law_1215 hl (by decide) rfl (fun ls hl => ?_)
    refine lv_aload_n hx hb nd_Law_law_1217 rfl (lv_at hl 3 rfl) ?_
    refine lv_aload_n hx hb nd_Law_law_1218 rfl (lv_at hl 5 rfl) ?_
    refine lv_iload hx hb nd_Law_law_1219 (lv_at hl 1 rfl) ?_
    refine lv_iconst (v := 1) hx hb nd_Law_law_1221 (by decide) ?_
    refine lv_iadd hx hb nd_Law_law_1222 ?_
    refine k_sld (n := n) (j := 1) hx hb hX hbl hbA hS (k_sidx rfl) (by omega) hL nd_Law_law_1223 ?_
    refine k_uVI (w2 := wA qc qm qo ca I J A L (va_up i 0 S1) a l9 o) (As := [.int (xs (n + 1))]) (rest := []) (r := S0) hx hb hml hown hts (cn_Model_corrected l D ca (qm 0) (qm 1) (qm 2) (qm 3) (qm 4) (qm 5) (qm 6) (qm 7) (qm 8) (qm 9) (qm 10) (qm 11) (qm 12) (qm 13) (qm 14) (qm 15) (qm 16) (qm 17) (qm 18) (qm 19) (qm 20) (qm 21) (qm 22) (qm 23) (qm 24) (i 0) (i 1) (i 2) (i 3) (i 4) (i 5) (i 6) (i 7) (a 17) (a 18) (a 19) (xs (n + 1)) S0 S1 e2 _) kc_Model_corrected kv_Model_corrected tt_981 ⟨by decide, by decide⟩ rfl rfl hP hK hD hS hA [63, 85, 86, 87] rfl (by decide +kernel) rfl rfl 0 rfl rfl rfl rfl hl.1 (Nat.le_of_ble_eq_true rfl) rfl nd_Law_law_1224 ⟨by show _ ≤ 601024; omega, by show _ ≤ 7293034; omega⟩ (fun H locs hP hD hS => ?_)
    refine lv_istore (lv' := [(6, .int S0), (5, .int 1), (4, .int (nI n)), (3, .ref qo), (2, .ref (qm 0)), (1, .ref (qc 0)), (0, .ref b)]) hx hb nd_Law_law_1227 hl (by decide) rfl (fun ls hl => ?_)
    refine lv_aload_n hx hb nd_Law_law_1229 rfl (lv_at hl 4 rfl) ?_
    refine k_rVI (As := []) (rest := []) (r := S1) hx hb hml hown hts (cn_Model_thrown l D ca (qm 0) (qm 1) (qm 2) (qm 3) (qm 4) (qm 5) (qm 6) (qm 7) (qm 8) (qm 9) (qm 10) (qm 11) (qm 12) (qm 13) (qm 14) (qm 15) (qm 16) (qm 17) (qm 18) (qm 19) (qm 20) (qm 21) (qm 22) (qm 23) (qm 24) ((va_up i 0 S1) 0) ((va_up i 0 S1) 1) ((va_up i 0 S1) 2) ((va_up i 0 S1) 3) ((va_up i 0 S1) 4) ((va_up i 0 S1) 5) ((va_up i 0 S1) 6) ((va_up i 0 S1) 7) S1 rfl) kc_Model_thrown kv_Model_thrown tt_820 ⟨by decide, by decide⟩ rfl rfl hP hK [63] rfl 0 rfl rfl rfl rfl hl.1 (Nat.le_of_ble_eq_true rfl) rfl nd_Law_law_1230 ⟨by show _ ≤ 601024; omega, by show _ ≤ 7293034; omega⟩ ?_
    refine lv_iload hx hb nd_Law_law_1233 (lv_at hl 1 rfl) ?_
    refine lv_icmp_eq (tgt := 1240) hx hb nd_Law_law_1235 (by decide) (fun c4 => ?_) (fun c4 => ?_)
    rotate_left
    · exact absurd et c4
    refine lv_iload hx hb nd_Law_law_1240 (lv_at hl 1 rfl) ?_
    refine lv_if_ne (tgt := 1257) hx hb nd_Law_law_1242 (by decide) (fun c5 => ?_) (fun c5 => ?_)
    rotate_left
    · exact absurd c5 (by decide)
    refine lv_goto (tgt := 1452) hx hb nd_Law_law_1257 (by decide) ?_
    refine W.widen (k := 400 + n + 1) (n := 20000 + 6 * n + 6) (by omega) (by omega) ?_
    exact hnext _ _ _ _ _ _ _ _ _ _ _ hRel hP hD hS (lv_sub hl [2, 3, 4, 5, 6] rfl)
set_option maxHeartbeats 8000000 in
set_option maxRecDepth 100000 in
theorem lc_silent {p : Program} {l : Launch} {e : Env} {s : State} {m : MethodId} {below : List Frame} {meth : Method} {c : Code} {D : va_G} {ca : Nat → ClassId} {b Ls : Nat} {xs : Nat → Int32} (C0 : lw_At p s m meth c b Ls xs) (hL : Ls ≤ 2560) (hlt : l.stackTraces = false) (hev0 : xt_ev s s.heap) (hK : va_K D vwCl (tyG ca) s) {Rel : (Nat → Int32) → (Nat → Int64) → (Nat → Nat → Int32) → (Nat → Nat → Int64) → (Nat → Int32) → (Nat → Nat → Int32) → (Nat → Nat → Int64) → Prop} {qc qm : Nat → Nat} {qo : Nat} {I : Nat → Int32} {J : Nat → Int64} {A : Nat → Nat → Int32} {L : Nat → Nat → Int64} {i : Nat → Int32} {a : Nat → Nat → Int32} {l9 : Nat → Nat → Int64} {o : Nat → Int64} {n : Nat} (hn : n + 5 ≤ Ls) {H : Heap} {locs : List Loc} {ls : Array Slot} (hP : va_P D vwCl (wA qc qm qo ca I J A L i a l9 o) H) (hD : va_D (fun q : Nat => s.heap.size ≤ q) (wA qc qm qo ca I J A L i a l9 o)) (hS : va_S (fun q : Nat => s.heap.size ≤ q) s.heap H locs) (hl : lv_has ls 8 [(4, .int (nI n)), (3, .ref qo), (2, .ref (qm 0)), (1, .ref (qc 0)), (0, .ref b)]) (hst : st_silent Rel I J A L i a l9 o (xs (n + 1))) (hnext : ∀ (I : Nat → Int32) (J : Nat → Int64) (A : Nat → Nat → Int32) (L : Nat → Nat → Int64) (i : Nat → Int32) (a : Nat → Nat → Int32) (l9 : Nat → Nat → Int64) (o : Nat → Int64) (H : Heap) (locs : List Loc) (ls : Array Slot), Rel I J A L i a l9 → va_P D vwCl (wA qc qm qo ca I J A L i a l9 o) H → va_D (fun q : Nat => s.heap.size ≤ q) (wA qc qm qo ca I J A L i a l9 o) → va_S (fun q : Nat => s.heap.size ≤ q) s.heap H locs → lv_has ls 8 [(4, .int (nI n)), (3, .ref qo), (2, .ref (qm 0)), (1, .ref (qc 0)), (0, .ref b)] → W p l e room_1 s m #[Value.ref b] below meth c H locs (400 + n + 1) (20000 + 6 * n + 6) (lw_Z below #[Value.ref b] s) (F0 m 1452 ls [])) : W p l e room_1 s m #[Value.ref b] below meth c H locs (400 + n) (20000 + 6 * n) (lw_Z below #[Value.ref b] s) (F0 m 1260 ls []) := by
  obtain ⟨hx, hb, hr, hml, hown, hts0, hX, hbl, hlocks, hgv⟩ := C0
  have hts : ∀ w ∈ TT, w.before #[Value.ref b] s = true := fun w h => hts0 w (List.mem_filter.mp h).1
  have hA : ∀ q : Nat, s.heap.size ≤ q → (fun q : Nat => s.heap.size ≤ q) q := fun _ h => h
  have hbA : ¬ (fun q : Nat => s.heap.size ≤ q) b := Nat.not_le.mpr hbl
  have hown : s.vm.findClass nR_Law = some m.cls := hown
  have hev : xt_ev s H := k_evH hev0 hS
  unfold st_silent at hst
  rcases hst with ⟨R1, S0, S1, e1, e2, et, ea, hRel⟩ | ⟨S0, S1, e1, e2, et, hRel⟩
  ·
    refine lv_aload_n hx hb nd_Law_law_1260 rfl (lv_at hl 3 rfl) ?_
    refine lv_aload_n hx hb nd_Law_law_1261 rfl (lv_at hl 4 rfl) ?_
    refine lv_iload hx hb nd_Law_law_1262 (lv_at hl 0 rfl) ?_
    refine lv_iconst (v := 1) hx hb nd_Law_law_1264 (by decide) ?_
    refine lv_iadd hx hb nd_Law_law_1265 ?_
    refine k_sld (n := n) (j := 1) hx hb hX hbl hbA hS (k_sidx rfl) (by omega) hL nd_Law_law_1266 ?_
    refine lv_aload_n hx hb nd_Law_law_1267 rfl (lv_at hl 1 rfl) ?_
    refine k_uSWI (w2 := wA qc qm qo ca I J A L i a l9 R1) (As := [.ref (qc 0), .int (xs (n + 1)), .ref qo]) (rest := []) (r := 0) hx hb hml hown hts (cn_Law_silent l D ca (qc 0) (qc 1) (qc 19) (qc 34) (qc 47) (qc 48) (qc 58) (qc 59) (qc 60) (qc 61) (qc 62) qo (I 0) (I 15) (A 34) o (xs (n + 1)) (0 : Int32) R1 e1 _) kc_Law_silent ks_Law_silent tt_653 ⟨by decide, by decide⟩ rfl rfl hP hK hD hS hA [0, 58, 60, 88] rfl (by decide +kernel) rfl rfl rfl hl.1 (Nat.le_of_ble_eq_true rfl) rfl nd_Law_law_1268 ⟨by show _ ≤ 601024; omega, by show _ ≤ 7293034; omega⟩ (fun H locs hP hD hS => ?_)
    refine W.widen (k := 400 + n) (n := 20000 + 6 * n) (by omega) (by omega) ?_
    refine lv_istore (lv' := [(5, .int 0), (4, .int (nI n)), (3, .ref qo), (2, .ref (qm 0)), (1, .ref (qc 0)), (0, .ref b)]) hx hb nd_Law_law_1271 hl (by decide) rfl (fun ls hl => ?_)
    refine lv_aload_n hx hb nd_Law_law_1273 rfl (lv_at hl 3 rfl) ?_
    refine lv_aload_n hx hb nd_Law_law_1274 rfl (lv_at hl 5 rfl) ?_
    refine lv_iload hx hb nd_Law_law_1275 (lv_at hl 1 rfl) ?_
    refine lv_iconst (v := 1) hx hb nd_Law_law_1277 (by decide) ?_
    refine lv_iadd hx hb nd_Law_law_1278 ?_
    refine k_sld (n := n) (j := 1) hx hb hX hbl hbA hS (k_sidx rfl) (by omega) hL nd_Law_law_1279 ?_
    refine k_uVI (w2 := wA qc qm qo ca I J A L (va_up i 0 S1) a l9 R1) (As := [.int (xs (n + 1))]) (rest := []) (r := S0) hx hb hml hown hts (cn_Model_silent l D ca (qm 0) (qm 1) (qm 2) (qm 3) (qm 4) (qm 5) (qm 6) (qm 7) (qm 8) (qm 9) (qm 10) (qm 11) (qm 12) (qm 13) (qm 14) (qm 15) (qm 16) (qm 17) (qm 18) (qm 19) (qm 20) (qm 21) (qm 22) (qm 23) (qm 24) (i 0) (i 1) (i 2) (i 3) (i 4) (i 5) (i 6) (i 7) (a 17) (xs (n + 1)) S0 S1 e2 _) kc_Model_silent kv_Model_silent tt_985 ⟨by decide, by decide⟩ rfl rfl hP hK hD hS hA [63, 85] rfl (by decide +kernel) rfl rfl 0 rfl rfl rfl rfl hl.1 (Nat.le_of_ble_eq_true rfl) rfl nd_Law_law_1280 ⟨by show _ ≤ 601024; omega, by show _ ≤ 7293034; omega⟩ (fun H locs hP hD hS => ?_)
    refine lv_istore (lv' := [(6, .int S0), (5, .int 0), (4, .int (nI n)), (3, .ref qo), (2, .ref (qm 0)), (1, .ref (qc 0)), (0, .ref b)]) hx hb nd_Law_law_1283 hl (by decide) rfl (fun ls hl => ?_)
    refine lv_aload_n hx hb nd_Law_law_1285 rfl (lv_at hl 4 rfl) ?_
    refine k_rVI (As := []) (rest := []) (r := S1) hx hb hml hown hts (cn_Model_thrown l D ca (qm 0) (qm 1) (qm 2) (qm 3) (qm 4) (qm 5) (qm 6) (qm 7) (qm 8) (qm 9) (qm 10) (qm 11) (qm 12) (qm 13) (qm 14) (qm 15) (qm 16) (qm 17) (qm 18) (qm 19) (qm 20) (qm 21) (qm 22) (qm 23) (qm 24) ((va_up i 0 S1) 0) ((va_up i 0 S1) 1) ((va_up i 0 S1) 2) ((va_up i 0 S1) 3) ((va_up i 0 S1) 4) ((va_up i 0 S1) 5) ((va_up i 0 S1) 6) ((va_up i 0 S1) 7) S1 rfl) kc_Model_thrown kv_Model_thrown tt_820 ⟨by decide, by decide⟩ rfl rfl hP hK [63] rfl 0 rfl rfl rfl rfl hl.1 (Nat.le_of_ble_eq_true rfl) rfl nd_Law_law_1286 ⟨by show _ ≤ 601024; omega, by show _ ≤ 7293034; omega⟩ ?_
    refine lv_iload hx hb nd_Law_law_1289 (lv_at hl 1 rfl) ?_
    refine lv_icmp_eq (tgt := 1296) hx hb nd_Law_law_1291 (by decide) (fun c1 => ?_) (fun c1 => ?_)
    rotate_left
    · exact absurd et c1
    refine lv_iload hx hb nd_Law_law_1296 (lv_at hl 1 rfl) ?_
    refine lv_if_ne (tgt := 1313) hx hb nd_Law_law_1298 (by decide) (fun c2 => ?_) (fun c2 => ?_)
    · exact absurd rfl c2
    refine lv_aload_n hx hb nd_Law_law_1301 rfl (lv_at hl 3 rfl) ?_
    refine lv_iconst (v := 0) hx hb nd_Law_law_1302 (by decide) ?_
    refine va_lald hx hb hK hP 88 1 rfl rfl (by unfold vp_in; decide) nd_Law_law_1303 ?_
    refine lv_iload hx hb nd_Law_law_1304 (lv_at hl 0 rfl) ?_
    refine lv_i2l hx hb nd_Law_law_1306 rfl ?_
    refine W.lcmp hx hb nd_Law_law_1307 ?_
    refine lv_if_eq (tgt := 1313) hx hb nd_Law_law_1308 (by decide) (fun c3 => ?_) (fun c3 => ?_)
    rotate_left
    · exact absurd ea c3
    refine lv_goto (tgt := 1452) hx hb nd_Law_law_1313 (by decide) ?_
    refine W.widen (k := 400 + n + 1) (n := 20000 + 6 * n + 6) (by omega) (by omega) ?_
    exact hnext _ _ _ _ _ _ _ _ _ _ _ hRel hP hD hS (lv_sub hl [2, 3, 4, 5, 6] rfl)
  ·
    refine lv_aload_n hx hb nd_Law_law_1260 rfl (lv_at hl 3 rfl) ?_
    refine lv_aload_n hx hb nd_Law_law_1261 rfl (lv_at hl 4 rfl) ?_
    refine lv_iload hx hb nd_Law_law_1262 (lv_at hl 0 rfl) ?_
    refine lv_iconst (v := 1) hx hb nd_Law_law_1264 (by decide) ?_
    refine lv_iadd hx hb nd_Law_law_1265 ?_
    refine k_sld (n := n) (j := 1) hx hb hX hbl hbA hS (k_sidx rfl) (by omega) hL nd_Law_law_1266 ?_
    refine lv_aload_n hx hb nd_Law_law_1267 rfl (lv_at hl 1 rfl) ?_
    refine k_uSWX (w2 := wA qc qm qo ca I J A L i a l9 o) (As := [.ref (qc 0), .int (xs (n + 1)), .ref qo]) (rest := []) (r := 1) hx hb hml hown hts (hx_Law_silent_1 l hlt D ca (qc 0) (qc 1) (qc 19) (qc 34) (qc 47) (qc 48) (qc 58) (qc 59) (qc 60) (qc 61) (qc 62) qo (I 0) (I 15) (A 34) o (xs (n + 1)) e1 _) kc_Law_silent ks_Law_silent tt_653 ⟨by decide, by decide⟩ rfl rfl hP hK hD hS hA hev [0, 58, 60, 88] rfl (by decide +kernel) rfl rfl rfl hl.1 (Nat.le_of_ble_eq_true rfl) rfl nd_Law_law_1268 ⟨by show _ ≤ 601024; omega, by show _ ≤ 7293034; omega⟩ (fun H locs hP hD hS => ?_)
    refine W.widen (k := 400 + n + 1) (n := 20000 + 6 * n + 6) (by omega) (by omega) ?_
    refine lv_istore (lv' := [(5, .int 1), (4, .int (nI n)), (3, .ref qo), (2, .ref (qm 0)), (1, .ref (qc 0)), (0, .ref b)]) hx hb nd_Law_law_1271 hl (by decide) rfl (fun ls hl => ?_)
    refine lv_aload_n hx hb nd_Law_law_1273 rfl (lv_at hl 3 rfl) ?_
    refine lv_aload_n hx hb nd_Law_law_1274 rfl (lv_at hl 5 rfl) ?_
    refine lv_iload hx hb nd_Law_law_1275 (lv_at hl 1 rfl) ?_
    refine lv_iconst (v := 1) hx hb nd_Law_law_1277 (by decide) ?_
    refine lv_iadd hx hb nd_Law_law_1278 ?_
    refine k_sld (n := n) (j := 1) hx hb hX hbl hbA hS (k_sidx rfl) (by omega) hL nd_Law_law_1279 ?_
    refine k_uVI (w2 := wA qc qm qo ca I J A L (va_up i 0 S1) a l9 o) (As := [.int (xs (n + 1))]) (rest := []) (r := S0) hx hb hml hown hts (cn_Model_silent l D ca (qm 0) (qm 1) (qm 2) (qm 3) (qm 4) (qm 5) (qm 6) (qm 7) (qm 8) (qm 9) (qm 10) (qm 11) (qm 12) (qm 13) (qm 14) (qm 15) (qm 16) (qm 17) (qm 18) (qm 19) (qm 20) (qm 21) (qm 22) (qm 23) (qm 24) (i 0) (i 1) (i 2) (i 3) (i 4) (i 5) (i 6) (i 7) (a 17) (xs (n + 1)) S0 S1 e2 _) kc_Model_silent kv_Model_silent tt_985 ⟨by decide, by decide⟩ rfl rfl hP hK hD hS hA [63, 85] rfl (by decide +kernel) rfl rfl 0 rfl rfl rfl rfl hl.1 (Nat.le_of_ble_eq_true rfl) rfl nd_Law_law_1280 ⟨by show _ ≤ 601024; omega, by show _ ≤ 7293034; omega⟩ (fun H locs hP hD hS => ?_)
    refine lv_istore (lv' := [(6, .int S0), (5, .int 1), (4, .int (nI n)), (3, .ref qo), (2, .ref (qm 0)), (1, .ref (qc 0)), (0, .ref b)]) hx hb nd_Law_law_1283 hl (by decide) rfl (fun ls hl => ?_)
    refine lv_aload_n hx hb nd_Law_law_1285 rfl (lv_at hl 4 rfl) ?_
    refine k_rVI (As := []) (rest := []) (r := S1) hx hb hml hown hts (cn_Model_thrown l D ca (qm 0) (qm 1) (qm 2) (qm 3) (qm 4) (qm 5) (qm 6) (qm 7) (qm 8) (qm 9) (qm 10) (qm 11) (qm 12) (qm 13) (qm 14) (qm 15) (qm 16) (qm 17) (qm 18) (qm 19) (qm 20) (qm 21) (qm 22) (qm 23) (qm 24) ((va_up i 0 S1) 0) ((va_up i 0 S1) 1) ((va_up i 0 S1) 2) ((va_up i 0 S1) 3) ((va_up i 0 S1) 4) ((va_up i 0 S1) 5) ((va_up i 0 S1) 6) ((va_up i 0 S1) 7) S1 rfl) kc_Model_thrown kv_Model_thrown tt_820 ⟨by decide, by decide⟩ rfl rfl hP hK [63] rfl 0 rfl rfl rfl rfl hl.1 (Nat.le_of_ble_eq_true rfl) rfl nd_Law_law_1286 ⟨by show _ ≤ 601024; omega, by show _ ≤ 7293034; omega⟩ ?_
    refine lv_iload hx hb nd_Law_law_1289 (lv_at hl 1 rfl) ?_
    refine lv_icmp_eq (tgt := 1296) hx hb nd_Law_law_1291 (by decide) (fun c4 => ?_) (fun c4 => ?_)
    rotate_left
    · exact absurd et c4
    refine lv_iload hx hb nd_Law_law_1296 (lv_at hl 1 rfl) ?_
    refine lv_if_ne (tgt := 1313) hx hb nd_Law_law_1298 (by decide) (fun c5 => ?_) (fun c5 => ?_)
    rotate_left
    · exact absurd c5 (by decide)
    refine lv_goto (tgt := 1452) hx hb nd_Law_law_1313 (by decide) ?_
    refine W.widen (k := 400 + n + 1) (n := 20000 + 6 * n + 6) (by omega) (by omega) ?_
    exact hnext _ _ _ _ _ _ _ _ _ _ _ hRel hP hD hS (lv_sub hl [2, 3, 4, 5, 6] rfl)
set_option maxHeartbeats 8000000 in
set_option maxRecDepth 100000 in
theorem lc_count {p : Program} {l : Launch} {e : Env} {s : State} {m : MethodId} {below : List Frame} {meth : Method} {c : Code} {D : va_G} {ca : Nat → ClassId} {b Ls : Nat} {xs : Nat → Int32} (C0 : lw_At p s m meth c b Ls xs) (hL : Ls ≤ 2560) (hlt : l.stackTraces = false) (hev0 : xt_ev s s.heap) (hK : va_K D vwCl (tyG ca) s) {Rel : (Nat → Int32) → (Nat → Int64) → (Nat → Nat → Int32) → (Nat → Nat → Int64) → (Nat → Int32) → (Nat → Nat → Int32) → (Nat → Nat → Int64) → Prop} {qc qm : Nat → Nat} {qo : Nat} {I : Nat → Int32} {J : Nat → Int64} {A : Nat → Nat → Int32} {L : Nat → Nat → Int64} {i : Nat → Int32} {a : Nat → Nat → Int32} {l9 : Nat → Nat → Int64} {o : Nat → Int64} {n : Nat} (hn : n + 5 ≤ Ls) {H : Heap} {locs : List Loc} {ls : Array Slot} (hP : va_P D vwCl (wA qc qm qo ca I J A L i a l9 o) H) (hD : va_D (fun q : Nat => s.heap.size ≤ q) (wA qc qm qo ca I J A L i a l9 o)) (hS : va_S (fun q : Nat => s.heap.size ≤ q) s.heap H locs) (hl : lv_has ls 8 [(4, .int (nI n)), (3, .ref qo), (2, .ref (qm 0)), (1, .ref (qc 0)), (0, .ref b)]) (hst : st_count Rel I J A L i a l9 o (xs (n + 1))) (hnext : ∀ (I : Nat → Int32) (J : Nat → Int64) (A : Nat → Nat → Int32) (L : Nat → Nat → Int64) (i : Nat → Int32) (a : Nat → Nat → Int32) (l9 : Nat → Nat → Int64) (o : Nat → Int64) (H : Heap) (locs : List Loc) (ls : Array Slot), Rel I J A L i a l9 → va_P D vwCl (wA qc qm qo ca I J A L i a l9 o) H → va_D (fun q : Nat => s.heap.size ≤ q) (wA qc qm qo ca I J A L i a l9 o) → va_S (fun q : Nat => s.heap.size ≤ q) s.heap H locs → lv_has ls 8 [(4, .int (nI n)), (3, .ref qo), (2, .ref (qm 0)), (1, .ref (qc 0)), (0, .ref b)] → W p l e room_1 s m #[Value.ref b] below meth c H locs (400 + n + 1) (20000 + 6 * n + 6) (lw_Z below #[Value.ref b] s) (F0 m 1452 ls [])) : W p l e room_1 s m #[Value.ref b] below meth c H locs (400 + n) (20000 + 6 * n) (lw_Z below #[Value.ref b] s) (F0 m 1396 ls []) := by
  obtain ⟨hx, hb, hr, hml, hown, hts0, hX, hbl, hlocks, hgv⟩ := C0
  have hts : ∀ w ∈ TT, w.before #[Value.ref b] s = true := fun w h => hts0 w (List.mem_filter.mp h).1
  have hA : ∀ q : Nat, s.heap.size ≤ q → (fun q : Nat => s.heap.size ≤ q) q := fun _ h => h
  have hbA : ¬ (fun q : Nat => s.heap.size ≤ q) b := Nat.not_le.mpr hbl
  have hown : s.vm.findClass nR_Law = some m.cls := hown
  have hev : xt_ev s H := k_evH hev0 hS
  unfold st_count at hst
  rcases hst with ⟨R1, S0, S1, e1, e2, et, ea, hRel⟩ | ⟨S0, S1, e1, e2, et, hRel⟩
  ·
    refine lv_aload_n hx hb nd_Law_law_1396 rfl (lv_at hl 3 rfl) ?_
    refine lv_aload_n hx hb nd_Law_law_1397 rfl (lv_at hl 4 rfl) ?_
    refine lv_iload hx hb nd_Law_law_1398 (lv_at hl 0 rfl) ?_
    refine lv_iconst (v := 1) hx hb nd_Law_law_1400 (by decide) ?_
    refine lv_iadd hx hb nd_Law_law_1401 ?_
    refine k_sld (n := n) (j := 1) hx hb hX hbl hbA hS (k_sidx rfl) (by omega) hL nd_Law_law_1402 ?_
    refine lv_aload_n hx hb nd_Law_law_1403 rfl (lv_at hl 1 rfl) ?_
    refine k_uSWI (w2 := wA qc qm qo ca I J A L i a l9 R1) (As := [.ref (qc 0), .int (xs (n + 1)), .ref qo]) (rest := []) (r := 0) hx hb hml hown hts (cn_Law_count l D ca (qc 0) (qc 1) (qc 19) (qc 34) (qc 47) (qc 48) (qc 58) (qc 2) (qc 5) (qc 9) (qc 13) (qc 6) (qc 7) (qc 8) (qc 10) (qc 11) (qc 12) (qc 49) (qc 50) (qc 51) (qc 52) (qc 53) (qc 59) (qc 60) (qc 61) (qc 62) qo (I 0) (I 3) (I 4) (J 2) (I 5) (I 14) (I 15) o (xs (n + 1)) (0 : Int32) R1 e1 _) kc_Law_count ks_Law_count tt_706 ⟨by decide, by decide⟩ rfl rfl hP hK hD hS hA [0, 1, 5, 9, 10, 48, 58, 88] rfl (by decide +kernel) rfl rfl rfl hl.1 (Nat.le_of_ble_eq_true rfl) rfl nd_Law_law_1404 ⟨by show _ ≤ 601024; omega, by show _ ≤ 7293034; omega⟩ (fun H locs hP hD hS => ?_)
    refine W.widen (k := 400 + n) (n := 20000 + 6 * n) (by omega) (by omega) ?_
    refine lv_istore (lv' := [(5, .int 0), (4, .int (nI n)), (3, .ref qo), (2, .ref (qm 0)), (1, .ref (qc 0)), (0, .ref b)]) hx hb nd_Law_law_1407 hl (by decide) rfl (fun ls hl => ?_)
    refine lv_aload_n hx hb nd_Law_law_1409 rfl (lv_at hl 3 rfl) ?_
    refine lv_aload_n hx hb nd_Law_law_1410 rfl (lv_at hl 5 rfl) ?_
    refine lv_iload hx hb nd_Law_law_1411 (lv_at hl 1 rfl) ?_
    refine lv_iconst (v := 1) hx hb nd_Law_law_1413 (by decide) ?_
    refine lv_iadd hx hb nd_Law_law_1414 ?_
    refine k_sld (n := n) (j := 1) hx hb hX hbl hbA hS (k_sidx rfl) (by omega) hL nd_Law_law_1415 ?_
    refine k_uVI (w2 := wA qc qm qo ca I J A L (va_up i 0 S1) a l9 R1) (As := [.int (xs (n + 1))]) (rest := []) (r := S0) hx hb hml hown hts (cn_Model_count l D ca (qm 0) (qm 1) (qm 2) (qm 3) (qm 4) (qm 5) (qm 6) (qm 7) (qm 8) (qm 9) (qm 10) (qm 11) (qm 12) (qm 13) (qm 14) (qm 15) (qm 16) (qm 17) (qm 18) (qm 19) (qm 20) (qm 21) (qm 22) (qm 23) (qm 24) (i 0) (i 1) (i 2) (i 3) (i 4) (i 5) (i 6) (i 7) (a 18) (xs (n + 1)) S0 S1 e2 _) kc_Model_count kv_Model_count tt_999 ⟨by decide, by decide⟩ rfl rfl hP hK hD hS hA [63, 86] rfl (by decide +kernel) rfl rfl 0 rfl rfl rfl rfl hl.1 (Nat.le_of_ble_eq_true rfl) rfl nd_Law_law_1416 ⟨by show _ ≤ 601024; omega, by show _ ≤ 7293034; omega⟩ (fun H locs hP hD hS => ?_)
    refine lv_istore (lv' := [(6, .int S0), (5, .int 0), (4, .int (nI n)), (3, .ref qo), (2, .ref (qm 0)), (1, .ref (qc 0)), (0, .ref b)]) hx hb nd_Law_law_1419 hl (by decide) rfl (fun ls hl => ?_)
    refine lv_aload_n hx hb nd_Law_law_1421 rfl (lv_at hl 4 rfl) ?_
    refine k_rVI (As := []) (rest := []) (r := S1) hx hb hml hown hts (cn_Model_thrown l D ca (qm 0) (qm 1) (qm 2) (qm 3) (qm 4) (qm 5) (qm 6) (qm 7) (qm 8) (qm 9) (qm 10) (qm 11) (qm 12) (qm 13) (qm 14) (qm 15) (qm 16) (qm 17) (qm 18) (qm 19) (qm 20) (qm 21) (qm 22) (qm 23) (qm 24) ((va_up i 0 S1) 0) ((va_up i 0 S1) 1) ((va_up i 0 S1) 2) ((va_up i 0 S1) 3) ((va_up i 0 S1) 4) ((va_up i 0 S1) 5) ((va_up i 0 S1) 6) ((va_up i 0 S1) 7) S1 rfl) kc_Model_thrown kv_Model_thrown tt_820 ⟨by decide, by decide⟩ rfl rfl hP hK [63] rfl 0 rfl rfl rfl rfl hl.1 (Nat.le_of_ble_eq_true rfl) rfl nd_Law_law_1422 ⟨by show _ ≤ 601024; omega, by show _ ≤ 7293034; omega⟩ ?_
    refine lv_iload hx hb nd_Law_law_1425 (lv_at hl 1 rfl) ?_
    refine lv_icmp_eq (tgt := 1432) hx hb nd_Law_law_1427 (by decide) (fun c1 => ?_) (fun c1 => ?_)
    rotate_left
    · exact absurd et c1
    refine lv_iload hx hb nd_Law_law_1432 (lv_at hl 1 rfl) ?_
    refine lv_if_ne (tgt := 1449) hx hb nd_Law_law_1434 (by decide) (fun c2 => ?_) (fun c2 => ?_)
    · exact absurd rfl c2
    refine lv_aload_n hx hb nd_Law_law_1437 rfl (lv_at hl 3 rfl) ?_
    refine lv_iconst (v := 0) hx hb nd_Law_law_1438 (by decide) ?_
    refine va_lald hx hb hK hP 88 1 rfl rfl (by unfold vp_in; decide) nd_Law_law_1439 ?_
    refine lv_iload hx hb nd_Law_law_1440 (lv_at hl 0 rfl) ?_
    refine lv_i2l hx hb nd_Law_law_1442 rfl ?_
    refine W.lcmp hx hb nd_Law_law_1443 ?_
    refine lv_if_eq (tgt := 1449) hx hb nd_Law_law_1444 (by decide) (fun c3 => ?_) (fun c3 => ?_)
    rotate_left
    · exact absurd ea c3
    refine lv_goto (tgt := 1452) hx hb nd_Law_law_1449 (by decide) ?_
    refine W.widen (k := 400 + n + 1) (n := 20000 + 6 * n + 6) (by omega) (by omega) ?_
    exact hnext _ _ _ _ _ _ _ _ _ _ _ hRel hP hD hS (lv_sub hl [2, 3, 4, 5, 6] rfl)
  ·
    refine lv_aload_n hx hb nd_Law_law_1396 rfl (lv_at hl 3 rfl) ?_
    refine lv_aload_n hx hb nd_Law_law_1397 rfl (lv_at hl 4 rfl) ?_
    refine lv_iload hx hb nd_Law_law_1398 (lv_at hl 0 rfl) ?_
    refine lv_iconst (v := 1) hx hb nd_Law_law_1400 (by decide) ?_
    refine lv_iadd hx hb nd_Law_law_1401 ?_
    refine k_sld (n := n) (j := 1) hx hb hX hbl hbA hS (k_sidx rfl) (by omega) hL nd_Law_law_1402 ?_
    refine lv_aload_n hx hb nd_Law_law_1403 rfl (lv_at hl 1 rfl) ?_
    refine k_uSWX (w2 := wA qc qm qo ca I J A L i a l9 o) (As := [.ref (qc 0), .int (xs (n + 1)), .ref qo]) (rest := []) (r := 1) hx hb hml hown hts (hx_Law_count_1 l hlt D ca (qc 0) (qc 1) (qc 19) (qc 34) (qc 47) (qc 48) (qc 58) (qc 2) (qc 5) (qc 9) (qc 13) (qc 6) (qc 7) (qc 8) (qc 10) (qc 11) (qc 12) (qc 49) (qc 50) (qc 51) (qc 52) (qc 53) (qc 59) (qc 60) (qc 61) (qc 62) qo (I 0) (I 3) (I 4) (J 2) (I 5) (I 14) (I 15) o (xs (n + 1)) e1 _) kc_Law_count ks_Law_count tt_706 ⟨by decide, by decide⟩ rfl rfl hP hK hD hS hA hev [0, 1, 5, 9, 10, 48, 58, 88] rfl (by decide +kernel) rfl rfl rfl hl.1 (Nat.le_of_ble_eq_true rfl) rfl nd_Law_law_1404 ⟨by show _ ≤ 601024; omega, by show _ ≤ 7293034; omega⟩ (fun H locs hP hD hS => ?_)
    refine W.widen (k := 400 + n + 1) (n := 20000 + 6 * n + 6) (by omega) (by omega) ?_
    refine lv_istore (lv' := [(5, .int 1), (4, .int (nI n)), (3, .ref qo), (2, .ref (qm 0)), (1, .ref (qc 0)), (0, .ref b)]) hx hb nd_Law_law_1407 hl (by decide) rfl (fun ls hl => ?_)
    refine lv_aload_n hx hb nd_Law_law_1409 rfl (lv_at hl 3 rfl) ?_
    refine lv_aload_n hx hb nd_Law_law_1410 rfl (lv_at hl 5 rfl) ?_
    refine lv_iload hx hb nd_Law_law_1411 (lv_at hl 1 rfl) ?_
    refine lv_iconst (v := 1) hx hb nd_Law_law_1413 (by decide) ?_
    refine lv_iadd hx hb nd_Law_law_1414 ?_
    refine k_sld (n := n) (j := 1) hx hb hX hbl hbA hS (k_sidx rfl) (by omega) hL nd_Law_law_1415 ?_
    refine k_uVI (w2 := wA qc qm qo ca I J A L (va_up i 0 S1) a l9 o) (As := [.int (xs (n + 1))]) (rest := []) (r := S0) hx hb hml hown hts (cn_Model_count l D ca (qm 0) (qm 1) (qm 2) (qm 3) (qm 4) (qm 5) (qm 6) (qm 7) (qm 8) (qm 9) (qm 10) (qm 11) (qm 12) (qm 13) (qm 14) (qm 15) (qm 16) (qm 17) (qm 18) (qm 19) (qm 20) (qm 21) (qm 22) (qm 23) (qm 24) (i 0) (i 1) (i 2) (i 3) (i 4) (i 5) (i 6) (i 7) (a 18) (xs (n + 1)) S0 S1 e2 _) kc_Model_count kv_Model_count tt_999 ⟨by decide, by decide⟩ rfl rfl hP hK hD hS hA [63, 86] rfl (by decide +kernel) rfl rfl 0 rfl rfl rfl rfl hl.1 (Nat.le_of_ble_eq_true rfl) rfl nd_Law_law_1416 ⟨by show _ ≤ 601024; omega, by show _ ≤ 7293034; omega⟩ (fun H locs hP hD hS => ?_)
    refine lv_istore (lv' := [(6, .int S0), (5, .int 1), (4, .int (nI n)), (3, .ref qo), (2, .ref (qm 0)), (1, .ref (qc 0)), (0, .ref b)]) hx hb nd_Law_law_1419 hl (by decide) rfl (fun ls hl => ?_)
    refine lv_aload_n hx hb nd_Law_law_1421 rfl (lv_at hl 4 rfl) ?_
    refine k_rVI (As := []) (rest := []) (r := S1) hx hb hml hown hts (cn_Model_thrown l D ca (qm 0) (qm 1) (qm 2) (qm 3) (qm 4) (qm 5) (qm 6) (qm 7) (qm 8) (qm 9) (qm 10) (qm 11) (qm 12) (qm 13) (qm 14) (qm 15) (qm 16) (qm 17) (qm 18) (qm 19) (qm 20) (qm 21) (qm 22) (qm 23) (qm 24) ((va_up i 0 S1) 0) ((va_up i 0 S1) 1) ((va_up i 0 S1) 2) ((va_up i 0 S1) 3) ((va_up i 0 S1) 4) ((va_up i 0 S1) 5) ((va_up i 0 S1) 6) ((va_up i 0 S1) 7) S1 rfl) kc_Model_thrown kv_Model_thrown tt_820 ⟨by decide, by decide⟩ rfl rfl hP hK [63] rfl 0 rfl rfl rfl rfl hl.1 (Nat.le_of_ble_eq_true rfl) rfl nd_Law_law_1422 ⟨by show _ ≤ 601024; omega, by show _ ≤ 7293034; omega⟩ ?_
    refine lv_iload hx hb nd_Law_law_1425 (lv_at hl 1 rfl) ?_
    refine lv_icmp_eq (tgt := 1432) hx hb nd_Law_law_1427 (by decide) (fun c4 => ?_) (fun c4 => ?_)
    rotate_left
    · exact absurd et c4
    refine lv_iload hx hb nd_Law_law_1432 (lv_at hl 1 rfl) ?_
    refine lv_if_ne (tgt := 1449) hx hb nd_Law_law_1434 (by decide) (fun c5 => ?_) (fun c5 => ?_)
    rotate_left
    · exact absurd c5 (by decide)
    refine lv_goto (tgt := 1452) hx hb nd_Law_law_1449 (by decide) ?_
    refine W.widen (k := 400 + n + 1) (n := 20000 + 6 * n + 6) (by omega) (by omega) ?_
    exact hnext _ _ _ _ _ _ _ _ _ _ _ hRel hP hD hS (lv_sub hl [2, 3, 4, 5, 6] rfl)
