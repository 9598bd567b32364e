set_option maxHeartbeats 8000000 in
set_option maxRecDepth 100000 in
theorem lc_room {p : Program} {l : Launch} {e : Env} {s : State} {m : MethodId} {below : List Frame} {meth : Method} {c : Code} {D : va_G} {ca : Nat → ClassId} {b Ls : Nat} {xs : Nat → Int32} (C0 : lw_At p s m meth c b Ls xs) (hL : Ls ≤ 2560) (hlt : l.stackTraces = false) (hev0 : xt_ev s s.heap) (hK : va_K D vwCl (tyG ca) s) {Rel : (Nat → Int32) → (Nat → Int64) → (Nat → Nat → Int32) → (Nat → Nat → Int64) → (Nat → Int32) → (Nat → Nat → Int32) → (Nat → Nat → Int64) → Prop} {qc qm : Nat → Nat} {qo : Nat} {I : Nat → Int32} {J : Nat → Int64} {A : Nat → Nat → Int32} {L : Nat → Nat → Int64} {i : Nat → Int32} {a : Nat → Nat → Int32} {l9 : Nat → Nat → Int64} {o : Nat → Int64} {n : Nat} (hn : n + 5 ≤ Ls) {H : Heap} {locs : List Loc} {ls : Array Slot} (hP : va_P D vwCl (wA qc qm qo ca I J A L i a l9 o) H) (hD : va_D (fun q : Nat => s.heap.size ≤ q) (wA qc qm qo ca I J A L i a l9 o)) (hS : va_S (fun q : Nat => s.heap.size ≤ q) s.heap H locs) (hl : lv_has ls 8 [(4, .int (nI n)), (3, .ref qo), (2, .ref (qm 0)), (1, .ref (qc 0)), (0, .ref b)]) (hst : st_room Rel I J A L i a l9 o (xs (n + 1)) (xs (n + 2))) (hnext : ∀ (I : Nat → Int32) (J : Nat → Int64) (A : Nat → Nat → Int32) (L : Nat → Nat → Int64) (i : Nat → Int32) (a : Nat → Nat → Int32) (l9 : Nat → Nat → Int64) (o : Nat → Int64) (H : Heap) (locs : List Loc) (ls : Array Slot), Rel I J A L i a l9 → va_P D vwCl (wA qc qm qo ca I J A L i a l9 o) H → va_D (fun q : Nat => s.heap.size ≤ q) (wA qc qm qo ca I J A L i a l9 o) → va_S (fun q : Nat => s.heap.size ≤ q) s.heap H locs → lv_has ls 8 [(4, .int (nI n)), (3, .ref qo), (2, .ref (qm 0)), (1, .ref (qc 0)), (0, .ref b)] → W p l e room_1 s m #[Value.ref b] below meth c H locs (400 + n + 1) (20000 + 6 * n + 6) (lw_Z below #[Value.ref b] s) (F0 m 1452 ls [])) : W p l e room_1 s m #[Value.ref b] below meth c H locs (400 + n) (20000 + 6 * n) (lw_Z below #[Value.ref b] s) (F0 m 144 ls []) := by
  obtain ⟨hx, hb, hr, hml, hown, hts0, hX, hbl, hlocks, hgv⟩ := C0
  have hts : ∀ w ∈ TT, w.before #[Value.ref b] s = true := fun w h => hts0 w (List.mem_filter.mp h).1
  have hA : ∀ q : Nat, s.heap.size ≤ q → (fun q : Nat => s.heap.size ≤ q) q := fun _ h => h
  have hbA : ¬ (fun q : Nat => s.heap.size ≤ q) b := Nat.not_le.mpr hbl
  have hown : s.vm.findClass nR_Law = some m.cls := hown
  have hev : xt_ev s H := k_evH hev0 hS
  unfold st_room at hst
  rcases hst with ⟨R1, R2, S0, S1, S2, e1, e2, et, ea, hRel⟩ | ⟨S0, S1, S2, e1, e2, et, hRel⟩
  ·
    refine lv_aload_n hx hb nd_Law_law_144 rfl (lv_at hl 3 rfl) ?_
    refine lv_aload_n hx hb nd_Law_law_145 rfl (lv_at hl 4 rfl) ?_
    refine lv_iload hx hb nd_Law_law_146 (lv_at hl 0 rfl) ?_
    refine lv_iconst (v := 1) hx hb nd_Law_law_148 (by decide) ?_
    refine lv_iadd hx hb nd_Law_law_149 ?_
    refine k_sld (n := n) (j := 1) hx hb hX hbl hbA hS (k_sidx rfl) (by omega) hL nd_Law_law_150 ?_
    refine lv_aload_n hx hb nd_Law_law_151 rfl (lv_at hl 4 rfl) ?_
    refine lv_iload hx hb nd_Law_law_152 (lv_at hl 0 rfl) ?_
    refine lv_iconst (v := 2) hx hb nd_Law_law_154 (by decide) ?_
    refine lv_iadd hx hb nd_Law_law_155 ?_
    refine k_sld (n := n) (j := 2) hx hb hX hbl hbA hS (k_sidx rfl) (by omega) hL nd_Law_law_156 ?_
    refine k_uSWI (w2 := wA qc qm qo ca (va_up (va_up I 1 R1) 2 R2) J A L i a l9 o) (As := [.ref (qc 0), .int (xs (n + 1)), .int (xs (n + 2))]) (rest := []) (r := 0) hx hb hml hown hts (cn_Law_room l D ca (qc 0) (qc 1) (qc 19) (qc 34) (qc 47) (qc 48) (qc 58) (qc 2) (qc 5) (qc 9) (qc 13) (qc 3) (qc 4) (I 0) (I 1) (I 2) (J 0) (J 1) (xs (n + 1)) (xs (n + 2)) (0 : Int32) R1 R2 e1 _) kc_Law_room ks_Law_room tt_270 ⟨by decide, by decide⟩ rfl rfl hP hK hD hS hA [0, 1, 2] rfl (by decide +kernel) rfl rfl rfl hl.1 (Nat.le_of_ble_eq_true rfl) rfl nd_Law_law_157 ⟨by show _ ≤ 601024; omega, by show _ ≤ 7293034; omega⟩ (fun H locs hP hD hS => ?_)
    refine W.widen (k := 400 + n) (n := 20000 + 6 * n) (by omega) (by omega) ?_
    refine lv_istore (lv' := [(5, .int 0), (4, .int (nI n)), (3, .ref qo), (2, .ref (qm 0)), (1, .ref (qc 0)), (0, .ref b)]) hx hb nd_Law_law_160 hl (by decide) rfl (fun ls hl => ?_)
    refine lv_aload_n hx hb nd_Law_law_162 rfl (lv_at hl 3 rfl) ?_
    refine lv_aload_n hx hb nd_Law_law_163 rfl (lv_at hl 5 rfl) ?_
    refine lv_iload hx hb nd_Law_law_164 (lv_at hl 1 rfl) ?_
    refine lv_iconst (v := 1) hx hb nd_Law_law_166 (by decide) ?_
    refine lv_iadd hx hb nd_Law_law_167 ?_
    refine k_sld (n := n) (j := 1) hx hb hX hbl hbA hS (k_sidx rfl) (by omega) hL nd_Law_law_168 ?_
    refine lv_aload_n hx hb nd_Law_law_169 rfl (lv_at hl 5 rfl) ?_
    refine lv_iload hx hb nd_Law_law_170 (lv_at hl 1 rfl) ?_
    refine lv_iconst (v := 2) hx hb nd_Law_law_172 (by decide) ?_
    refine lv_iadd hx hb nd_Law_law_173 ?_
    refine k_sld (n := n) (j := 2) hx hb hX hbl hbA hS (k_sidx rfl) (by omega) hL nd_Law_law_174 ?_
    refine k_uVV (w2 := wA qc qm qo ca (va_up (va_up I 1 R1) 2 R2) J A L (va_up (va_up (va_up i 0 S0) 1 S1) 2 S2) a l9 o) (As := [.int (xs (n + 1)), .int (xs (n + 2))]) (rest := []) hx hb hml hown hts (cn_Model_room l D ca (qm 0) (qm 1) (qm 2) (qm 3) (qm 4) (qm 5) (qm 6) (qm 7) (qm 8) (qm 9) (qm 10) (qm 11) (qm 12) (qm 13) (qm 14) (qm 15) (qm 16) (qm 17) (qm 18) (qm 19) (qm 20) (qm 21) (qm 22) (qm 23) (qm 24) (i 0) (i 1) (i 2) (i 3) (i 4) (i 5) (i 6) (i 7) (xs (n + 1)) (xs (n + 2)) S0 S1 S2 e2 _) kc_Model_room kv_Model_room tt_824 ⟨by decide, by decide⟩ rfl rfl hP hK hD hS hA [63] rfl (by decide +kernel) rfl rfl 0 rfl rfl rfl rfl hl.1 (Nat.le_of_ble_eq_true rfl) rfl nd_Law_law_175 ⟨by show _ ≤ 601024; omega, by show _ ≤ 7293034; omega⟩ (fun H locs hP hD hS => ?_)
    refine lv_aload_n hx hb nd_Law_law_178 rfl (lv_at hl 3 rfl) ?_
    refine k_rVI (As := []) (rest := []) (r := S0) hx hb hml hown hts (cn_Model_thrown l D ca (qm 0) (qm 1) (qm 2) (qm 3) (qm 4) (qm 5) (qm 6) (qm 7) (qm 8) (qm 9) (qm 10) (qm 11) (qm 12) (qm 13) (qm 14) (qm 15) (qm 16) (qm 17) (qm 18) (qm 19) (qm 20) (qm 21) (qm 22) (qm 23) (qm 24) ((va_up (va_up (va_up i 0 S0) 1 S1) 2 S2) 0) ((va_up (va_up (va_up i 0 S0) 1 S1) 2 S2) 1) ((va_up (va_up (va_up i 0 S0) 1 S1) 2 S2) 2) ((va_up (va_up (va_up i 0 S0) 1 S1) 2 S2) 3) ((va_up (va_up (va_up i 0 S0) 1 S1) 2 S2) 4) ((va_up (va_up (va_up i 0 S0) 1 S1) 2 S2) 5) ((va_up (va_up (va_up i 0 S0) 1 S1) 2 S2) 6) ((va_up (va_up (va_up i 0 S0) 1 S1) 2 S2) 7) S0 rfl) kc_Model_thrown kv_Model_thrown tt_820 ⟨by decide, by decide⟩ rfl rfl hP hK [63] rfl 0 rfl rfl rfl rfl hl.1 (Nat.le_of_ble_eq_true rfl) rfl nd_Law_law_179 ⟨by show _ ≤ 601024; omega, by show _ ≤ 7293034; omega⟩ ?_
    refine lv_iload hx hb nd_Law_law_182 (lv_at hl 0 rfl) ?_
    refine lv_icmp_eq (tgt := 189) hx hb nd_Law_law_184 (by decide) (fun c1 => ?_) (fun c1 => ?_)
    rotate_left
    · exact absurd et c1
    refine lv_goto (tgt := 1452) hx hb nd_Law_law_189 (by decide) ?_
    refine W.widen (k := 400 + n + 1) (n := 20000 + 6 * n + 6) (by omega) (by omega) ?_
    exact hnext _ _ _ _ _ _ _ _ _ _ _ hRel hP hD hS (lv_sub hl [1, 2, 3, 4, 5] rfl)
  ·
    refine lv_aload_n hx hb nd_Law_law_144 rfl (lv_at hl 3 rfl) ?_
    refine lv_aload_n hx hb nd_Law_law_145 rfl (lv_at hl 4 rfl) ?_
    refine lv_iload hx hb nd_Law_law_146 (lv_at hl 0 rfl) ?_
    refine lv_iconst (v := 1) hx hb nd_Law_law_148 (by decide) ?_
    refine lv_iadd hx hb nd_Law_law_149 ?_
    refine k_sld (n := n) (j := 1) hx hb hX hbl hbA hS (k_sidx rfl) (by omega) hL nd_Law_law_150 ?_
    refine lv_aload_n hx hb nd_Law_law_151 rfl (lv_at hl 4 rfl) ?_
    refine lv_iload hx hb nd_Law_law_152 (lv_at hl 0 rfl) ?_
    refine lv_iconst (v := 2) hx hb nd_Law_law_154 (by decide) ?_
    refine lv_iadd hx hb nd_Law_law_155 ?_
    refine k_sld (n := n) (j := 2) hx hb hX hbl hbA hS (k_sidx rfl) (by omega) hL nd_Law_law_156 ?_
    refine k_uSWX (w2 := wA qc qm qo ca I J A L i a l9 o) (As := [.ref (qc 0), .int (xs (n + 1)), .int (xs (n + 2))]) (rest := []) (r := 1) hx hb hml hown hts (hx_Law_room_3 l hlt D ca (qc 0) (qc 1) (qc 19) (qc 34) (qc 47) (qc 48) (qc 58) (qc 2) (qc 5) (qc 9) (qc 13) (qc 3) (qc 4) (I 0) (I 1) (I 2) (J 0) (J 1) (xs (n + 1)) (xs (n + 2)) e1 _) kc_Law_room ks_Law_room tt_270 ⟨by decide, by decide⟩ rfl rfl hP hK hD hS hA hev [0, 1, 2] rfl (by decide +kernel) rfl rfl rfl hl.1 (Nat.le_of_ble_eq_true rfl) rfl nd_Law_law_157 ⟨by show _ ≤ 601024; omega, by show _ ≤ 7293034; omega⟩ (fun H locs hP hD hS => ?_)
    refine W.widen (k := 400 + n + 1) (n := 20000 + 6 * n + 6) (by omega) (by omega) ?_
    refine lv_istore (lv' := [(5, .int 1), (4, .int (nI n)), (3, .ref qo), (2, .ref (qm 0)), (1, .ref (qc 0)), (0, .ref b)]) hx hb nd_Law_law_160 hl (by decide) rfl (fun ls hl => ?_)
    refine lv_aload_n hx hb nd_Law_law_162 rfl (lv_at hl 3 rfl) ?_
    refine lv_aload_n hx hb nd_Law_law_163 rfl (lv_at hl 5 rfl) ?_
    refine lv_iload hx hb nd_Law_law_164 (lv_at hl 1 rfl) ?_
    refine lv_iconst (v := 1) hx hb nd_Law_law_166 (by decide) ?_
    refine lv_iadd hx hb nd_Law_law_167 ?_
    refine k_sld (n := n) (j := 1) hx hb hX hbl hbA hS (k_sidx rfl) (by omega) hL nd_Law_law_168 ?_
    refine lv_aload_n hx hb nd_Law_law_169 rfl (lv_at hl 5 rfl) ?_
    refine lv_iload hx hb nd_Law_law_170 (lv_at hl 1 rfl) ?_
    refine lv_iconst (v := 2) hx hb nd_Law_law_172 (by decide) ?_
    refine lv_iadd hx hb nd_Law_law_173 ?_
    refine k_sld (n := n) (j := 2) hx hb hX hbl hbA hS (k_sidx rfl) (by omega) hL nd_Law_law_174 ?_
    refine k_uVV (w2 := wA qc qm qo ca I J A L (va_up (va_up (va_up i 0 S0) 1 S1) 2 S2) a l9 o) (As := [.int (xs (n + 1)), .int (xs (n + 2))]) (rest := []) hx hb hml hown hts (cn_Model_room l D ca (qm 0) (qm 1) (qm 2) (qm 3) (qm 4) (qm 5) (qm 6) (qm 7) (qm 8) (qm 9) (qm 10) (qm 11) (qm 12) (qm 13) (qm 14) (qm 15) (qm 16) (qm 17) (qm 18) (qm 19) (qm 20) (qm 21) (qm 22) (qm 23) (qm 24) (i 0) (i 1) (i 2) (i 3) (i 4) (i 5) (i 6) (i 7) (xs (n + 1)) (xs (n + 2)) S0 S1 S2 e2 _) kc_Model_room kv_Model_room tt_824 ⟨by decide, by decide⟩ rfl rfl hP hK hD hS hA [63] rfl (by decide +kernel) rfl rfl 0 rfl rfl rfl rfl hl.1 (Nat.le_of_ble_eq_true rfl) rfl nd_Law_law_175 ⟨by show _ ≤ 601024; omega, by show _ ≤ 7293034; omega⟩ (fun H locs hP hD hS => ?_)
    refine lv_aload_n hx hb nd_Law_law_178 rfl (lv_at hl 3 rfl) ?_
    refine k_rVI (As := []) (rest := []) (r := S0) hx hb hml hown hts (cn_Model_thrown l D ca (qm 0) (qm 1) (qm 2) (qm 3) (qm 4) (qm 5) (qm 6) (qm 7) (qm 8) (qm 9) (qm 10) (qm 11) (qm 12) (qm 13) (qm 14) (qm 15) (qm 16) (qm 17) (qm 18) (qm 19) (qm 20) (qm 21) (qm 22) (qm 23) (qm 24) ((va_up (va_up (va_up i 0 S0) 1 S1) 2 S2) 0) ((va_up (va_up (va_up i 0 S0) 1 S1) 2 S2) 1) ((va_up (va_up (va_up i 0 S0) 1 S1) 2 S2) 2) ((va_up (va_up (va_up i 0 S0) 1 S1) 2 S2) 3) ((va_up (va_up (va_up i 0 S0) 1 S1) 2 S2) 4) ((va_up (va_up (va_up i 0 S0) 1 S1) 2 S2) 5) ((va_up (va_up (va_up i 0 S0) 1 S1) 2 S2) 6) ((va_up (va_up (va_up i 0 S0) 1 S1) 2 S2) 7) S0 rfl) kc_Model_thrown kv_Model_thrown tt_820 ⟨by decide, by decide⟩ rfl rfl hP hK [63] rfl 0 rfl rfl rfl rfl hl.1 (Nat.le_of_ble_eq_true rfl) rfl nd_Law_law_179 ⟨by show _ ≤ 601024; omega, by show _ ≤ 7293034; omega⟩ ?_
    refine lv_iload hx hb nd_Law_law_182 (lv_at hl 0 rfl) ?_
    refine lv_icmp_eq (tgt := 189) hx hb nd_Law_law_184 (by decide) (fun c2 => ?_) (fun c2 => ?_)
    rotate_left
    · exact absurd et c2
    refine lv_goto (tgt := 1452) hx hb nd_Law_law_189 (by decide) ?_
    refine W.widen (k := 400 + n + 1) (n := 20000 + 6 * n + 6) (by omega) (by omega) ?_
    exact hnext _ _ _ _ _ _ _ _ _ _ _ hRel hP hD hS (lv_sub hl [1, 2, 3, 4, 5] rfl)
set_option maxHeartbeats 8000000 in
set_option maxRecDepth 100000 in
theorem lc_wall {p : Program} {l : Launch} {e : Env} {s : State} {m : MethodId} {below : List Frame} {meth : Method} {c : Code} {D : va_G} {ca : Nat → ClassId} {b Ls : Nat} {xs : Nat → Int32} (C0 : lw_At p s m meth c b Ls xs) (hL : Ls ≤ 2560) (hlt : l.stackTraces = false) (hev0 : xt_ev s s.heap) (hK : va_K D vwCl (tyG ca) s) {Rel : (Nat → Int32) → (Nat → Int64) → (Nat → Nat → Int32) → (Nat → Nat → Int64) → (Nat → Int32) → (Nat → Nat → Int32) → (Nat → Nat → Int64) → Prop} {qc qm : Nat → Nat} {qo : Nat} {I : Nat → Int32} {J : Nat → Int64} {A : Nat → Nat → Int32} {L : Nat → Nat → Int64} {i : Nat → Int32} {a : Nat → Nat → Int32} {l9 : Nat → Nat → Int64} {o : Nat → Int64} {n : Nat} (hn : n + 5 ≤ Ls) {H : Heap} {locs : List Loc} {ls : Array Slot} (hP : va_P D vwCl (wA qc qm qo ca I J A L i a l9 o) H) (hD : va_D (fun q : Nat => s.heap.size ≤ q) (wA qc qm qo ca I J A L i a l9 o)) (hS : va_S (fun q : Nat => s.heap.size ≤ q) s.heap H locs) (hl : lv_has ls 8 [(4, .int (nI n)), (3, .ref qo), (2, .ref (qm 0)), (1, .ref (qc 0)), (0, .ref b)]) (hst : st_wall Rel I J A L i a l9 o (xs (n + 1)) (xs (n + 2))) (hnext : ∀ (I : Nat → Int32) (J : Nat → Int64) (A : Nat → Nat → Int32) (L : Nat → Nat → Int64) (i : Nat → Int32) (a : Nat → Nat → Int32) (l9 : Nat → Nat → Int64) (o : Nat → Int64) (H : Heap) (locs : List Loc) (ls : Array Slot), Rel I J A L i a l9 → va_P D vwCl (wA qc qm qo ca I J A L i a l9 o) H → va_D (fun q : Nat => s.heap.size ≤ q) (wA qc qm qo ca I J A L i a l9 o) → va_S (fun q : Nat => s.heap.size ≤ q) s.heap H locs → lv_has ls 8 [(4, .int (nI n)), (3, .ref qo), (2, .ref (qm 0)), (1, .ref (qc 0)), (0, .ref b)] → W p l e room_1 s m #[Value.ref b] below meth c H locs (400 + n + 1) (20000 + 6 * n + 6) (lw_Z below #[Value.ref b] s) (F0 m 1452 ls [])) : W p l e room_1 s m #[Value.ref b] below meth c H locs (400 + n) (20000 + 6 * n) (lw_Z below #[Value.ref b] s) (F0 m 192 ls []) := by
  obtain ⟨hx, hb, hr, hml, hown, hts0, hX, hbl, hlocks, hgv⟩ := C0
  have hts : ∀ w ∈ TT, w.before #[Value.ref b] s = true := fun w h => hts0 w (List.mem_filter.mp h).1
  have hA : ∀ q : Nat, s.heap.size ≤ q → (fun q : Nat => s.heap.size ≤ q) q := fun _ h => h
  have hbA : ¬ (fun q : Nat => s.heap.size ≤ q) b := Nat.not_le.mpr hbl
  have hown : s.vm.findClass nR_Law = some m.cls := hown
  have hev : xt_ev s H := k_evH hev0 hS
  unfold st_wall at hst
  rcases hst with ⟨R1, R2, R3, R4, R5, S0, S1, S2, S3, S4, S5, e1, e2, et, ea, hRel⟩ | ⟨S0, S1, S2, S3, S4, S5, e1, e2, et, hRel⟩ | ⟨S0, S1, S2, S3, S4, S5, e1, e2, et, hRel⟩
  ·
    refine lv_aload_n hx hb nd_Law_law_192 rfl (lv_at hl 3 rfl) ?_
    refine lv_aload_n hx hb nd_Law_law_193 rfl (lv_at hl 4 rfl) ?_
    refine lv_iload hx hb nd_Law_law_194 (lv_at hl 0 rfl) ?_
    refine lv_iconst (v := 1) hx hb nd_Law_law_196 (by decide) ?_
    refine lv_iadd hx hb nd_Law_law_197 ?_
    refine k_sld (n := n) (j := 1) hx hb hX hbl hbA hS (k_sidx rfl) (by omega) hL nd_Law_law_198 ?_
    refine lv_aload_n hx hb nd_Law_law_199 rfl (lv_at hl 4 rfl) ?_
    refine lv_iload hx hb nd_Law_law_200 (lv_at hl 0 rfl) ?_
    refine lv_iconst (v := 2) hx hb nd_Law_law_202 (by decide) ?_
    refine lv_iadd hx hb nd_Law_law_203 ?_
    refine k_sld (n := n) (j := 2) hx hb hX hbl hbA hS (k_sidx rfl) (by omega) hL nd_Law_law_204 ?_
    refine lv_aload_n hx hb nd_Law_law_205 rfl (lv_at hl 1 rfl) ?_
    refine k_uSWI (w2 := wA qc qm qo ca (va_up I 3 R4) J (va_up (va_up A 0 R1) 1 R2) (va_up L 2 R3) i a l9 R5) (As := [.ref (qc 0), .int (xs (n + 1)), .int (xs (n + 2)), .ref qo]) (rest := []) (r := 0) hx hb hml hown hts (cn_Law_wall l D ca (qc 0) (qc 1) (qc 19) (qc 34) (qc 47) (qc 48) (qc 58) (qc 2) (qc 5) (qc 9) (qc 13) (qc 6) (qc 7) (qc 8) qo (I 0) (I 3) (A 0) (A 1) (L 2) o (xs (n + 1)) (xs (n + 2)) (0 : Int32) R1 R2 R3 R4 R5 e1 _) kc_Law_wall ks_Law_wall tt_349 ⟨by decide, by decide⟩ rfl rfl hP hK hD hS hA [0, 1, 5, 6, 7, 8, 88] rfl (by decide +kernel) rfl rfl rfl hl.1 (Nat.le_of_ble_eq_true rfl) rfl nd_Law_law_206 ⟨by show _ ≤ 601024; omega, by show _ ≤ 7293034; omega⟩ (fun H locs hP hD hS => ?_)
    refine W.widen (k := 400 + n) (n := 20000 + 6 * n) (by omega) (by omega) ?_
    refine lv_istore (lv' := [(5, .int 0), (4, .int (nI n)), (3, .ref qo), (2, .ref (qm 0)), (1, .ref (qc 0)), (0, .ref b)]) hx hb nd_Law_law_209 hl (by decide) rfl (fun ls hl => ?_)
    refine lv_aload_n hx hb nd_Law_law_211 rfl (lv_at hl 3 rfl) ?_
    refine lv_aload_n hx hb nd_Law_law_212 rfl (lv_at hl 5 rfl) ?_
    refine lv_iload hx hb nd_Law_law_213 (lv_at hl 1 rfl) ?_
    refine lv_iconst (v := 1) hx hb nd_Law_law_215 (by decide) ?_
    refine lv_iadd hx hb nd_Law_law_216 ?_
    refine k_sld (n := n) (j := 1) hx hb hX hbl hbA hS (k_sidx rfl) (by omega) hL nd_Law_law_217 ?_
    refine lv_aload_n hx hb nd_Law_law_218 rfl (lv_at hl 5 rfl) ?_
    refine lv_iload hx hb nd_Law_law_219 (lv_at hl 1 rfl) ?_
    refine lv_iconst (v := 2) hx hb nd_Law_law_221 (by decide) ?_
    refine lv_iadd hx hb nd_Law_law_222 ?_
    refine k_sld (n := n) (j := 2) hx hb hX hbl hbA hS (k_sidx rfl) (by omega) hL nd_Law_law_223 ?_
    refine k_uVI (w2 := wA qc qm qo ca (va_up I 3 R4) J (va_up (va_up A 0 R1) 1 R2) (va_up L 2 R3) (va_up (va_up i 0 S1) 3 S5) (va_up (va_up a 0 S2) 1 S3) (va_up l9 0 S4) R5) (As := [.int (xs (n + 1)), .int (xs (n + 2))]) (rest := []) (r := S0) hx hb hml hown hts (cn_Model_wall l D ca (qm 0) (qm 1) (qm 2) (qm 3) (qm 4) (qm 5) (qm 6) (qm 7) (qm 8) (qm 9) (qm 10) (qm 11) (qm 12) (qm 13) (qm 14) (qm 15) (qm 16) (qm 17) (qm 18) (qm 19) (qm 20) (qm 21) (qm 22) (qm 23) (qm 24) (i 0) (i 1) (i 2) (i 3) (i 4) (i 5) (i 6) (i 7) (a 0) (a 1) (l9 0) (xs (n + 1)) (xs (n + 2)) S0 S1 S2 S3 S4 S5 e2 _) kc_Model_wall kv_Model_wall tt_835 ⟨by decide, by decide⟩ rfl rfl hP hK hD hS hA [63, 68, 69, 64] rfl (by decide +kernel) rfl rfl 0 rfl rfl rfl rfl hl.1 (Nat.le_of_ble_eq_true rfl) rfl nd_Law_law_224 ⟨by show _ ≤ 601024; omega, by show _ ≤ 7293034; omega⟩ (fun H locs hP hD hS => ?_)
    refine lv_istore (lv' := [(6, .int S0), (5, .int 0), (4, .int (nI n)), (3, .ref qo), (2, .ref (qm 0)), (1, .ref (qc 0)), (0, .ref b)]) hx hb nd_Law_law_227 hl (by decide) rfl (fun ls hl => ?_)
    refine lv_aload_n hx hb nd_Law_law_229 rfl (lv_at hl 4 rfl) ?_
    refine k_rVI (As := []) (rest := []) (r := S1) hx hb hml hown hts (cn_Model_thrown l D ca (qm 0) (qm 1) (qm 2) (qm 3) (qm 4) (qm 5) (qm 6) (qm 7) (qm 8) (qm 9) (qm 10) (qm 11) (qm 12) (qm 13) (qm 14) (qm 15) (qm 16) (qm 17) (qm 18) (qm 19) (qm 20) (qm 21) (qm 22) (qm 23) (qm 24) ((va_up (va_up i 0 S1) 3 S5) 0) ((va_up (va_up i 0 S1) 3 S5) 1) ((va_up (va_up i 0 S1) 3 S5) 2) ((va_up (va_up i 0 S1) 3 S5) 3) ((va_up (va_up i 0 S1) 3 S5) 4) ((va_up (va_up i 0 S1) 3 S5) 5) ((va_up (va_up i 0 S1) 3 S5) 6) ((va_up (va_up i 0 S1) 3 S5) 7) S1 rfl) kc_Model_thrown kv_Model_thrown tt_820 ⟨by decide, by decide⟩ rfl rfl hP hK [63] rfl 0 rfl rfl rfl rfl hl.1 (Nat.le_of_ble_eq_true rfl) rfl nd_Law_law_230 ⟨by show _ ≤ 601024; omega, by show _ ≤ 7293034; omega⟩ ?_
    refine lv_iload hx hb nd_Law_law_233 (lv_at hl 1 rfl) ?_
    refine lv_icmp_eq (tgt := 240) hx hb nd_Law_law_235 (by decide) (fun c1 => ?_) (fun c1 => ?_)
    rotate_left
    · exact absurd et c1
    refine lv_iload hx hb nd_Law_law_240 (lv_at hl 1 rfl) ?_
    refine lv_if_ne (tgt := 257) hx hb nd_Law_law_242 (by decide) (fun c2 => ?_) (fun c2 => ?_)
    · exact absurd rfl c2
    refine lv_aload_n hx hb nd_Law_law_245 rfl (lv_at hl 3 rfl) ?_
    refine lv_iconst (v := 0) hx hb nd_Law_law_246 (by decide) ?_
    refine va_lald hx hb hK hP 88 1 rfl rfl (by unfold vp_in; decide) nd_Law_law_247 ?_
    refine lv_iload hx hb nd_Law_law_248 (lv_at hl 0 rfl) ?_
    refine lv_i2l hx hb nd_Law_law_250 rfl ?_
    refine W.lcmp hx hb nd_Law_law_251 ?_
    refine lv_if_eq (tgt := 257) hx hb nd_Law_law_252 (by decide) (fun c3 => ?_) (fun c3 => ?_)
    rotate_left
    · exact absurd ea c3
    refine lv_goto (tgt := 1452) hx hb nd_Law_law_257 (by decide) ?_
    refine W.widen (k := 400 + n + 1) (n := 20000 + 6 * n + 6) (by omega) (by omega) ?_
    exact hnext _ _ _ _ _ _ _ _ _ _ _ hRel hP hD hS (lv_sub hl [2, 3, 4, 5, 6] rfl)
  ·
    refine lv_aload_n hx hb nd_Law_law_192 rfl (lv_at hl 3 rfl) ?_
    refine lv_aload_n hx hb nd_Law_law_193 rfl (lv_at hl 4 rfl) ?_
    refine lv_iload hx hb nd_Law_law_194 (lv_at hl 0 rfl) ?_
    refine lv_iconst (v := 1) hx hb nd_Law_law_196 (by decide) ?_
    refine lv_iadd hx hb nd_Law_law_197 ?_
    refine k_sld (n := n) (j := 1) hx hb hX hbl hbA hS (k_sidx rfl) (by omega) hL nd_Law_law_198 ?_
    refine lv_aload_n hx hb nd_Law_law_199 rfl (lv_at hl 4 rfl) ?_
    refine lv_iload hx hb nd_Law_law_200 (lv_at hl 0 rfl) ?_
    refine lv_iconst (v := 2) hx hb nd_Law_law_202 (by decide) ?_
    refine lv_iadd hx hb nd_Law_law_203 ?_
    refine k_sld (n := n) (j := 2) hx hb hX hbl hbA hS (k_sidx rfl) (by omega) hL nd_Law_law_204 ?_
    refine lv_aload_n hx hb nd_Law_law_205 rfl (lv_at hl 1 rfl) ?_
    refine k_uSWX (w2 := wA qc qm qo ca I J A L i a l9 o) (As := [.ref (qc 0), .int (xs (n + 1)), .int (xs (n + 2)), .ref qo]) (rest := []) (r := 1) hx hb hml hown hts (hx_Law_wall_2 l hlt D ca (qc 0) (qc 1) (qc 19) (qc 34) (qc 47) (qc 48) (qc 58) (qc 2) (qc 5) (qc 9) (qc 13) (qc 6) (qc 7) (qc 8) qo (I 0) (I 3) (A 0) (A 1) (L 2) o (xs (n + 1)) (xs (n + 2)) e1 _) kc_Law_wall ks_Law_wall tt_349 ⟨by decide, by decide⟩ rfl rfl hP hK hD hS hA hev [0, 1, 5, 6, 7, 8, 88] rfl (by decide +kernel) rfl rfl rfl hl.1 (Nat.le_of_ble_eq_true rfl) rfl nd_Law_law_206 ⟨by show _ ≤ 601024; omega, by show _ ≤ 7293034; omega⟩ (fun H locs hP hD hS => ?_)
    refine W.widen (k := 400 + n + 1) (n := 20000 + 6 * n + 6) (by omega) (by omega) ?_
    refine lv_istore (lv' := [(5, .int 1), (4, .int (nI n)), (3, .ref qo), (2, .ref (qm 0)), (1, .ref (qc 0)), (0, .ref b)]) hx hb nd_Law_law_209 hl (by decide) rfl (fun ls hl => ?_)
    refine lv_aload_n hx hb nd_Law_law_211 rfl (lv_at hl 3 rfl) ?_
    refine lv_aload_n hx hb nd_Law_law_212 rfl (lv_at hl 5 rfl) ?_
    refine lv_iload hx hb nd_Law_law_213 (lv_at hl 1 rfl) ?_
    refine lv_iconst (v := 1) hx hb nd_Law_law_215 (by decide) ?_
    refine lv_iadd hx hb nd_Law_law_216 ?_
    refine k_sld (n := n) (j := 1) hx hb hX hbl hbA hS (k_sidx rfl) (by omega) hL nd_Law_law_217 ?_
    refine lv_aload_n hx hb nd_Law_law_218 rfl (lv_at hl 5 rfl) ?_
    refine lv_iload hx hb nd_Law_law_219 (lv_at hl 1 rfl) ?_
    refine lv_iconst (v := 2) hx hb nd_Law_law_221 (by decide) ?_
    refine lv_iadd hx hb nd_Law_law_222 ?_
    refine k_sld (n := n) (j := 2) hx hb hX hbl hbA hS (k_sidx rfl) (by omega) hL nd_Law_law_223 ?_
    refine k_uVI (w2 := wA qc qm qo ca I J A L (va_up (va_up i 0 S1) 3 S5) (va_up (va_up a 0 S2) 1 S3) (va_up l9 0 S4) o) (As := [.int (xs (n + 1)), .int (xs (n + 2))]) (rest := []) (r := S0) hx hb hml hown hts (cn_Model_wall l D ca (qm 0) (qm 1) (qm 2) (qm 3) (qm 4) (qm 5) (qm 6) (qm 7) (qm 8) (qm 9) (qm 10) (qm 11) (qm 12) (qm 13) (qm 14) (qm 15) (qm 16) (qm 17) (qm 18) (qm 19) (qm 20) (qm 21) (qm 22) (qm 23) (qm 24) (i 0) (i 1) (i 2) (i 3) (i 4) (i 5) (i 6) (i 7) (a 0) (a 1) (l9 0) (xs (n + 1)) (xs (n + 2)) S0 S1 S2 S3 S4 S5 e2 _) kc_Model_wall kv_Model_wall tt_835 ⟨by decide, by decide⟩ rfl rfl hP hK hD hS hA [63, 68, 69, 64] rfl (by decide +kernel) rfl rfl 0 rfl rfl rfl rfl hl.1 (Nat.le_of_ble_eq_true rfl) rfl nd_Law_law_224 ⟨by show _ ≤ 601024; omega, by show _ ≤ 7293034; omega⟩ (fun H locs hP hD hS => ?_)
    refine lv_istore (lv' := [(6, .int S0), (5, .int 1), (4, .int (nI n)), (3, .ref qo), (2, .ref (qm 0)), (1, .ref (qc 0)), (0, .ref b)]) hx hb nd_Law_law_227 hl (by decide) rfl (fun ls hl => ?_)
    refine lv_aload_n hx hb nd_Law_law_229 rfl (lv_at hl 4 rfl) ?_
    refine k_rVI (As := []) (rest := []) (r := S1) hx hb hml hown hts (cn_Model_thrown l D ca (qm 0) (qm 1) (qm 2) (qm 3) (qm 4) (qm 5) (qm 6) (qm 7) (qm 8) (qm 9) (qm 10) (qm 11) (qm 12) (qm 13) (qm 14) (qm 15) (qm 16) (qm 17) (qm 18) (qm 19) (qm 20) (qm 21) (qm 22) (qm 23) (qm 24) ((va_up (va_up i 0 S1) 3 S5) 0) ((va_up (va_up i 0 S1) 3 S5) 1) ((va_up (va_up i 0 S1) 3 S5) 2) ((va_up (va_up i 0 S1) 3 S5) 3) ((va_up (va_up i 0 S1) 3 S5) 4) ((va_up (va_up i 0 S1) 3 S5) 5) ((va_up (va_up i 0 S1) 3 S5) 6) ((va_up (va_up i 0 S1) 3 S5) 7) S1 rfl) kc_Model_thrown kv_Model_thrown tt_820 ⟨by decide, by decide⟩ rfl rfl hP hK [63] rfl 0 rfl rfl rfl rfl hl.1 (Nat.le_of_ble_eq_true rfl) rfl nd_Law_law_230 ⟨by show _ ≤ 601024; omega, by show _ ≤ 7293034; omega⟩ ?_
    refine lv_iload hx hb nd_Law_law_233 (lv_at hl 1 rfl) ?_
    refine lv_icmp_eq (tgt := 240) hx hb nd_Law_law_235 (by decide) (fun c4 => ?_) (fun c4 => ?_)
    rotate_left
    · exact absurd et c4
    refine lv_iload hx hb nd_Law_law_240 (lv_at hl 1 rfl) ?_
    refine lv_if_ne (tgt := 257) hx hb nd_Law_law_242 (by decide) (fun c5 => ?_) (fun c5 => ?_)
    rotate_left
    · exact absurd c5 (by decide)
    refine lv_goto (tgt := 1452) hx hb nd_Law_law_257 (by decide) ?_
    refine W.widen (k := 400 + n + 1) (n := 20000 + 6 * n + 6) (by omega) (by omega) ?_
    exact hnext _ _ _ _ _ _ _ _ _ _ _ hRel hP hD hS (lv_sub hl [2, 3, 4, 5, 6] rfl)
  ·
    refine lv_aload_n hx hb nd_Law_law_192 rfl (lv_at hl 3 rfl) ?_
    refine lv_aload_n hx hb nd_Law_law_193 rfl (lv_at hl 4 rfl) ?_
    refine lv_iload hx hb nd_Law_law_194 (lv_at hl 0 rfl) ?_
    refine lv_iconst (v := 1) hx hb nd_Law_law_196 (by decide) ?_
    refine lv_iadd hx hb nd_Law_law_197 ?_
    refine k_sld (n := n) (j := 1) hx hb hX hbl hbA hS (k_sidx rfl) (by omega) hL nd_Law_law_198 ?_
    refine lv_aload_n hx hb nd_Law_law_199 rfl (lv_at hl 4 rfl) ?_
    refine lv_iload hx hb nd_Law_law_200 (lv_at hl 0 rfl) ?_
    refine lv_iconst (v := 2) hx hb nd_Law_law_202 (by decide) ?_
    refine lv_iadd hx hb nd_Law_law_203 ?_
    refine k_sld (n := n) (j := 2) hx hb hX hbl hbA hS (k_sidx rfl) (by omega) hL nd_Law_law_204 ?_
    refine lv_aload_n hx hb nd_Law_law_205 rfl (lv_at hl 1 rfl) ?_
    refine k_uSWX (w2 := wA qc qm qo ca I J A L i a l9 o) (As := [.ref (qc 0), .int (xs (n + 1)), .int (xs (n + 2)), .ref qo]) (rest := []) (r := 2) hx hb hml hown hts (hx_Law_wall_3 l hlt D ca (qc 0) (qc 1) (qc 19) (qc 34) (qc 47) (qc 48) (qc 58) (qc 2) (qc 5) (qc 9) (qc 13) (qc 6) (qc 7) (qc 8) qo (I 0) (I 3) (A 0) (A 1) (L 2) o (xs (n + 1)) (xs (n + 2)) e1 _) kc_Law_wall ks_Law_wall tt_349 ⟨by decide, by decide⟩ rfl rfl hP hK hD hS hA hev [0, 1, 5, 6, 7, 8, 88] rfl (by decide +kernel) rfl rfl rfl hl.1 (Nat.le_of_ble_eq_true rfl) rfl nd_Law_law_206 ⟨by show _ ≤ 601024; omega, by show _ ≤ 7293034; omega⟩ (fun H locs hP hD hS => ?_)
    refine W.widen (k := 400 + n + 1) (n := 20000 + 6 * n + 6) (by omega) (by omega) ?_
    refine lv_istore (lv' := [(5, .int 2), (4, .int (nI n)), (3, .ref qo), (2, .ref (qm 0)), (1, .ref (qc 0)), (0, .ref b)]) hx hb nd_Law_law_209 hl (by decide) rfl (fun ls hl => ?_)
    refine lv_aload_n hx hb nd_Law_law_211 rfl (lv_at hl 3 rfl) ?_
    refine lv_aload_n hx hb nd_Law_law_212 rfl (lv_at hl 5 rfl) ?_
    refine lv_iload hx hb nd_Law_law_213 (lv_at hl 1 rfl) ?_
    refine lv_iconst (v := 1) hx hb nd_Law_law_215 (by decide) ?_
    refine lv_iadd hx hb nd_Law_law_216 ?_
    refine k_sld (n := n) (j := 1) hx hb hX hbl hbA hS (k_sidx rfl) (by omega) hL nd_Law_law_217 ?_
    refine lv_aload_n hx hb nd_Law_law_218 rfl (lv_at hl 5 rfl) ?_
    refine lv_iload hx hb nd_Law_law_219 (lv_at hl 1 rfl) ?_
    refine lv_iconst (v := 2) hx hb nd_Law_law_221 (by decide) ?_
    refine lv_iadd hx hb nd_Law_law_222 ?_
    refine k_sld (n := n) (j := 2) hx hb hX hbl hbA hS (k_sidx rfl) (by omega) hL nd_Law_law_223 ?_
    refine k_uVI (w2 := wA qc qm qo ca I J A L (va_up (va_up i 0 S1) 3 S5) (va_up (va_up a 0 S2) 1 S3) (va_up l9 0 S4) o) (As := [.int (xs (n + 1)), .int (xs (n + 2))]) (rest := []) (r := S0) hx hb hml hown hts (cn_Model_wall l D ca (qm 0) (qm 1) (qm 2) (qm 3) (qm 4) (qm 5) (qm 6) (qm 7) (qm 8) (qm 9) (qm 10) (qm 11) (qm 12) (qm 13) (qm 14) (qm 15) (qm 16) (qm 17) (qm 18) (qm 19) (qm 20) (qm 21) (qm 22) (qm 23) (qm 24) (i 0) (i 1) (i 2) (i 3) (i 4) (i 5) (i 6) (i 7) (a 0) (a 1) (l9 0) (xs (n + 1)) (xs (n + 2)) S0 S1 S2 S3 S4 S5 e2 _) kc_Model_wall kv_Model_wall tt_835 ⟨by decide, by decide⟩ rfl rfl hP hK hD hS hA [63, 68, 69, 64] rfl (by decide +kernel) rfl rfl 0 rfl rfl rfl rfl hl.1 (Nat.le_of_ble_eq_true rfl) rfl nd_Law_law_224 ⟨by show _ ≤ 601024; omega, by show _ ≤ 7293034; omega⟩ (fun H locs hP hD hS => ?_)
    refine lv_istore (lv' := [(6, .int S0), (5, .int 2), (4, .int (nI n)), (3, .ref qo), (2, .ref (qm 0)), (1, .ref (qc 0)), (0, .ref b)]) hx hb nd_Law_law_227 hl (by decide) rfl (fun ls hl => ?_)
    refine lv_aload_n hx hb nd_Law_law_229 rfl (lv_at hl 4 rfl) ?_
    refine k_rVI (As := []) (rest := []) (r := S1) hx hb hml hown hts (cn_Model_thrown l D ca (qm 0) (qm 1) (qm 2) (qm 3) (qm 4) (qm 5) (qm 6) (qm 7) (qm 8) (qm 9) (qm 10) (qm 11) (qm 12) (qm 13) (qm 14) (qm 15) (qm 16) (qm 17) (qm 18) (qm 19) (qm 20) (qm 21) (qm 22) (qm 23) (qm 24) ((va_up (va_up i 0 S1) 3 S5) 0) ((va_up (va_up i 0 S1) 3 S5) 1) ((va_up (va_up i 0 S1) 3 S5) 2) ((va_up (va_up i 0 S1) 3 S5) 3) ((va_up (va_up i 0 S1) 3 S5) 4) ((va_up (va_up i 0 S1) 3 S5) 5) ((va_up (va_up i 0 S1) 3 S5) 6) ((va_up (va_up i 0 S1) 3 S5) 7) S1 rfl) kc_Model_thrown kv_Model_thrown tt_820 ⟨by decide, by decide⟩ rfl rfl hP hK [63] rfl 0 rfl rfl rfl rfl hl.1 (Nat.le_of_ble_eq_true rfl) rfl nd_Law_law_230 ⟨by show _ ≤ 601024; omega, by show _ ≤ 7293034; omega⟩ ?_
    refine lv_iload hx hb nd_Law_law_233 (lv_at hl 1 rfl) ?_
    refine lv_icmp_eq (tgt := 240) hx hb nd_Law_law_235 (by decide) (fun c6 => ?_) (fun c6 => ?_)
    rotate_left
    · exact absurd et c6
    refine lv_iload hx hb nd_Law_law_240 (lv_at hl 1 rfl) ?_
    refine lv_if_ne (tgt := 257) hx hb nd_Law_law_242 (by decide) (fun c7 => ?_) (fun c7 => ?_)
    rotate_left
    · exact absurd c7 (by decide)
    refine lv_goto (tgt := 1452) hx hb nd_Law_law_257 (by decide) ?_
    refine W.widen (k := 400 + n + 1) (n := 20000 + 6 * n + 6) (by omega) (by omega) ?_
    exact hnext _ _ _ _ _ _ _ _ _ _ _ hRel hP hD hS (lv_sub hl [2, 3, 4, 5, 6] rfl)
set_option maxHeartbeats 8000000 in
set_option maxRecDepth 100000 in
theorem lc_goods {p : Program} {l : Launch} {e : Env} {s : State} {m : MethodId} {below : List Frame} {meth : Method} {c : Code} {D : va_G} {ca : Nat → ClassId} {b Ls : Nat} {xs : Nat → Int32} (C0 : lw_At p s m meth c b Ls xs) (hL : Ls ≤ 2560) (hlt : l.stackTraces = false) (hev0 : xt_ev s s.heap) (hK : va_K D vwCl (tyG ca) s) {Rel : (Nat → Int32) → (Nat → Int64) → (Nat → Nat → Int32) → (Nat → Nat → Int64) → (Nat → Int32) → (Nat → Nat → Int32) → (Nat → Nat → Int64) → Prop} {qc qm : Nat → Nat} {qo : Nat} {I : Nat → Int32} {J : Nat → Int64} {A : Nat → Nat → Int32} {L : Nat → Nat → Int64} {i : Nat → Int32} {a : Nat → Nat → Int32} {l9 : Nat → Nat → Int64} {o : Nat → Int64} {n : Nat} (hn : n + 5 ≤ Ls) {H : Heap} {locs : List Loc} {ls : Array Slot} (hP : va_P D vwCl (wA qc qm qo ca I J A L i a l9 o) H) (hD : va_D (fun q : Nat => s.heap.size ≤ q) (wA qc qm qo ca I J A L i a l9 o)) (hS : va_S (fun q : Nat => s.heap.size ≤ q) s.heap H locs) (hl : lv_has ls 8 [(4, .int (nI n)), (3, .ref qo), (2, .ref (qm 0)), (1, .ref (qc 0)), (0, .ref b)]) (hst : st_goods Rel I J A L i a l9 o (xs (n + 1))) (hnext : ∀ (I : Nat → Int32) (J : Nat → Int64) (A : Nat → Nat → Int32) (L : Nat → Nat → Int64) (i : Nat → Int32) (a : Nat → Nat → Int32) (l9 : Nat → Nat → Int64) (o : Nat → Int64) (H : Heap) (locs : List Loc) (ls : Array Slot), Rel I J A L i a l9 → va_P D vwCl (wA qc qm qo ca I J A L i a l9 o) H → va_D (fun q : Nat => s.heap.size ≤ q) (wA qc qm qo ca I J A L i a l9 o) → va_S (fun q : Nat => s.heap.size ≤ q) s.heap H locs → lv_has ls 8 [(4, .int (nI n)), (3, .ref qo), (2, .ref (qm 0)), (1, .ref (qc 0)), (0, .ref b)] → W p l e room_1 s m #[Value.ref b] below meth c H locs (400 + n + 1) (20000 + 6 * n + 6) (lw_Z below #[Value.ref b] s) (F0 m 1452 ls [])) : W p l e room_1 s m #[Value.ref b] below meth c H locs (400 + n) (20000 + 6 * n) (lw_Z below #[Value.ref b] s) (F0 m 260 ls []) := by
  obtain ⟨hx, hb, hr, hml, hown, hts0, hX, hbl, hlocks, hgv⟩ := C0
  have hts : ∀ w ∈ TT, w.before #[Value.ref b] s = true := fun w h => hts0 w (List.mem_filter.mp h).1
  have hA : ∀ q : Nat, s.heap.size ≤ q → (fun q : Nat => s.heap.size ≤ q) q := fun _ h => h
  have hbA : ¬ (fun q : Nat => s.heap.size ≤ q) b := Nat.not_le.mpr hbl
  have hown : s.vm.findClass nR_Law = some m.cls := hown
  have hev : xt_ev s H := k_evH hev0 hS
  unfold st_goods at hst
  rcases hst with ⟨R1, R2, S0, S1, S2, e1, e2, et, ea, hRel⟩ | ⟨S0, S1, S2, e1, e2, et, hRel⟩
  ·
    refine lv_aload_n hx hb nd_Law_law_260 rfl (lv_at hl 3 rfl) ?_
    refine lv_aload_n hx hb nd_Law_law_261 rfl (lv_at hl 4 rfl) ?_
    refine lv_iload hx hb nd_Law_law_262 (lv_at hl 0 rfl) ?_
    refine lv_iconst (v := 1) hx hb nd_Law_law_264 (by decide) ?_
    refine lv_iadd hx hb nd_Law_law_265 ?_
    refine k_sld (n := n) (j := 1) hx hb hX hbl hbA hS (k_sidx rfl) (by omega) hL nd_Law_law_266 ?_
    refine lv_aload_n hx hb nd_Law_law_267 rfl (lv_at hl 1 rfl) ?_
    refine k_uSWI (w2 := wA qc qm qo ca (va_up I 4 R1) J A L i a l9 R2) (As := [.ref (qc 0), .int (xs (n + 1)), .ref qo]) (rest := []) (r := 0) hx hb hml hown hts (cn_Law_goods l D ca (qc 0) (qc 1) (qc 19) (qc 34) (qc 47) (qc 48) (qc 58) (qc 2) (qc 5) (qc 9) (qc 13) (qc 10) qo (I 0) (I 4) (J 2) o (xs (n + 1)) (0 : Int32) R1 R2 e1 _) kc_Law_goods ks_Law_goods tt_381 ⟨by decide, by decide⟩ rfl rfl hP hK hD hS hA [0, 1, 9, 88] rfl (by decide +kernel) rfl rfl rfl hl.1 (Nat.le_of_ble_eq_true rfl) rfl nd_Law_law_268 ⟨by show _ ≤ 601024; omega, by show _ ≤ 7293034; omega⟩ (fun H locs hP hD hS => ?_)
    refine W.widen (k := 400 + n) (n := 20000 + 6 * n) (by omega) (by omega) ?_
    refine lv_istore (lv' := [(5, .int 0), (4, .int (nI n)), (3, .ref qo), (2, .ref (qm 0)), (1, .ref (qc 0)), (0, .ref b)]) hx hb nd_Law_law_271 hl (by decide) rfl (fun ls hl => ?_)
    refine lv_aload_n hx hb nd_Law_law_273 rfl (lv_at hl 3 rfl) ?_
    refine lv_aload_n hx hb nd_Law_law_274 rfl (lv_at hl 5 rfl) ?_
    refine lv_iload hx hb nd_Law_law_275 (lv_at hl 1 rfl) ?_
    refine lv_iconst (v := 1) hx hb nd_Law_law_277 (by decide) ?_
    refine lv_iadd hx hb nd_Law_law_278 ?_
    refine k_sld (n := n) (j := 1) hx hb hX hbl hbA hS (k_sidx rfl) (by omega) hL nd_Law_law_279 ?_
    refine k_uVI (w2 := wA qc qm qo ca (va_up I 4 R1) J A L (va_up (va_up i 0 S1) 4 S2) a l9 R2) (As := [.int (xs (n + 1))]) (rest := []) (r := S0) hx hb hml hown hts (cn_Model_goods l D ca (qm 0) (qm 1) (qm 2) (qm 3) (qm 4) (qm 5) (qm 6) (qm 7) (qm 8) (qm 9) (qm 10) (qm 11) (qm 12) (qm 13) (qm 14) (qm 15) (qm 16) (qm 17) (qm 18) (qm 19) (qm 20) (qm 21) (qm 22) (qm 23) (qm 24) (i 0) (i 1) (i 2) (i 3) (i 4) (i 5) (i 6) (i 7) (xs (n + 1)) S0 S1 S2 e2 _) kc_Model_goods kv_Model_goods tt_840 ⟨by decide, by decide⟩ rfl rfl hP hK hD hS hA [63] rfl (by decide +kernel) rfl rfl 0 rfl rfl rfl rfl hl.1 (Nat.le_of_ble_eq_true rfl) rfl nd_Law_law_280 ⟨by show _ ≤ 601024; omega, by show _ ≤ 7293034; omega⟩ (fun H locs hP hD hS => ?_)
    refine lv_istore (lv' := [(6, .int S0), (5, .int 0), (4, .int (nI n)), (3, .ref qo), (2, .ref (qm 0)), (1, .ref (qc 0)), (0, .ref b)]) hx hb nd_Law_law_283 hl (by decide) rfl (fun ls hl => ?_)
    refine lv_aload_n hx hb nd_Law_law_285 rfl (lv_at hl 4 rfl) ?_
    refine k_rVI (As := []) (rest := []) (r := S1) hx hb hml hown hts (cn_Model_thrown l D ca (qm 0) (qm 1) (qm 2) (qm 3) (qm 4) (qm 5) (qm 6) (qm 7) (qm 8) (qm 9) (qm 10) (qm 11) (qm 12) (qm 13) (qm 14) (qm 15) (qm 16) (qm 17) (qm 18) (qm 19) (qm 20) (qm 21) (qm 22) (qm 23) (qm 24) ((va_up (va_up i 0 S1) 4 S2) 0) ((va_up (va_up i 0 S1) 4 S2) 1) ((va_up (va_up i 0 S1) 4 S2) 2) ((va_up (va_up i 0 S1) 4 S2) 3) ((va_up (va_up i 0 S1) 4 S2) 4) ((va_up (va_up i 0 S1) 4 S2) 5) ((va_up (va_up i 0 S1) 4 S2) 6) ((va_up (va_up i 0 S1) 4 S2) 7) S1 rfl) kc_Model_thrown kv_Model_thrown tt_820 ⟨by decide, by decide⟩ rfl rfl hP hK [63] rfl 0 rfl rfl rfl rfl hl.1 (Nat.le_of_ble_eq_true rfl) rfl nd_Law_law_286 ⟨by show _ ≤ 601024; omega, by show _ ≤ 7293034; omega⟩ ?_
    refine lv_iload hx hb nd_Law_law_289 (lv_at hl 1 rfl) ?_
    refine lv_icmp_eq (tgt := 296) hx hb nd_Law_law_291 (by decide) (fun c1 => ?_) (fun c1 => ?_)
    rotate_left
    · exact absurd et c1
    refine lv_iload hx hb nd_Law_law_296 (lv_at hl 1 rfl) ?_
    refine lv_if_ne (tgt := 313) hx hb nd_Law_law_298 (by decide) (fun c2 => ?_) (fun c2 => ?_)
    · exact absurd rfl c2
    refine lv_aload_n hx hb nd_Law_law_301 rfl (lv_at hl 3 rfl) ?_
    refine lv_iconst (v := 0) hx hb nd_Law_law_302 (by decide) ?_
    refine va_lald hx hb hK hP 88 1 rfl rfl (by unfold vp_in; decide) nd_Law_law_303 ?_
    refine lv_iload hx hb nd_Law_law_304 (lv_at hl 0 rfl) ?_
    refine lv_i2l hx hb nd_Law_law_306 rfl ?_
    refine W.lcmp hx hb nd_Law_law_307 ?_
    refine lv_if_eq (tgt := 313) hx hb nd_Law_law_308 (by decide) (fun c3 => ?_) (fun c3 => ?_)
    rotate_left
    · exact absurd ea c3
    refine lv_goto (tgt := 1452) hx hb nd_Law_law_313 (by decide) ?_
    refine W.widen (k := 400 + n + 1) (n := 20000 + 6 * n + 6) (by omega) (by omega) ?_
    exact hnext _ _ _ _ _ _ _ _ _ _ _ hRel hP hD hS (lv_sub hl [2, 3, 4, 5, 6] rfl)
  ·
    refine lv_aload_n hx hb nd_Law_law_260 rfl (lv_at hl 3 rfl) ?_
    refine lv_aload_n hx hb nd_Law_law_261 rfl (lv_at hl 4 rfl) ?_
    refine lv_iload hx hb nd_Law_law_262 (lv_at hl 0 rfl) ?_
    refine lv_iconst (v := 1) hx hb nd_Law_law_264 (by decide) ?_
    refine lv_iadd hx hb nd_Law_law_265 ?_
    refine k_sld (n := n) (j := 1) hx hb hX hbl hbA hS (k_sidx rfl) (by omega) hL nd_Law_law_266 ?_
    refine lv_aload_n hx hb nd_Law_law_267 rfl (lv_at hl 1 rfl) ?_
    refine k_uSWX (w2 := wA qc qm qo ca I J A L i a l9 o) (As := [.ref (qc 0), .int (xs (n + 1)), .ref qo]) (rest := []) (r := 1) hx hb hml hown hts (hx_Law_goods_3 l hlt D ca (qc 0) (qc 1) (qc 19) (qc 34) (qc 47) (qc 48) (qc 58) (qc 2) (qc 5) (qc 9) (qc 13) (qc 10) qo (I 0) (I 4) (J 2) o (xs (n + 1)) e1 _) kc_Law_goods ks_Law_goods tt_381 ⟨by decide, by decide⟩ rfl rfl hP hK hD hS hA hev [0, 1, 9, 88] rfl (by decide +kernel) rfl rfl rfl hl.1 (Nat.le_of_ble_eq_true rfl) rfl nd_Law_law_268 ⟨by show _ ≤ 601024; omega, by show _ ≤ 7293034; omega⟩ (fun H locs hP hD hS => ?_)
    refine W.widen (k := 400 + n + 1) (n := 20000 + 6 * n + 6) (by omega) (by omega) ?_
    refine lv_istore (lv' := [(5, .int 1), (4, .int (nI n)), (3, .ref qo), (2, .ref (qm 0)), (1, .ref (qc 0)), (0, .ref b)]) hx hb nd_Law_law_271 hl (by decide) rfl (fun ls hl => ?_)
    refine lv_aload_n hx hb nd_Law_law_273 rfl (lv_at hl 3 rfl) ?_
    refine lv_aload_n hx hb nd_Law_law_274 rfl (lv_at hl 5 rfl) ?_
    refine lv_iload hx hb nd_Law_law_275 (lv_at hl 1 rfl) ?_
    refine lv_iconst (v := 1) hx hb nd_Law_law_277 (by decide) ?_
    refine lv_iadd hx hb nd_Law_law_278 ?_
    refine k_sld (n := n) (j := 1) hx hb hX hbl hbA hS (k_sidx rfl) (by omega) hL nd_Law_law_279 ?_
    refine k_uVI (w2 := wA qc qm qo ca I J A L (va_up (va_up i 0 S1) 4 S2) a l9 o) (As := [.int (xs (n + 1))]) (rest := []) (r := S0) hx hb hml hown hts (cn_Model_goods l D ca (qm 0) (qm 1) (qm 2) (qm 3) (qm 4) (qm 5) (qm 6) (qm 7) (qm 8) (qm 9) (qm 10) (qm 11) (qm 12) (qm 13) (qm 14) (qm 15) (qm 16) (qm 17) (qm 18) (qm 19) (qm 20) (qm 21) (qm 22) (qm 23) (qm 24) (i 0) (i 1) (i 2) (i 3) (i 4) (i 5) (i 6) (i 7) (xs (n + 1)) S0 S1 S2 e2 _) kc_Model_goods kv_Model_goods tt_840 ⟨by decide, by decide⟩ rfl rfl hP hK hD hS hA [63] rfl (by decide +kernel) rfl rfl 0 rfl rfl rfl rfl hl.1 (Nat.le_of_ble_eq_true rfl) rfl nd_Law_law_280 ⟨by show _ ≤ 601024; omega, by show _ ≤ 7293034; omega⟩ (fun H locs hP hD hS => ?_)
    refine lv_istore (lv' := [(6, .int S0), (5, .int 1), (4, .int (nI n)), (3, .ref qo), (2, .ref (qm 0)), (1, .ref (qc 0)), (0, .ref b)]) hx hb nd_Law_law_283 hl (by decide) rfl (fun ls hl => ?_)
    refine lv_aload_n hx hb nd_Law_law_285 rfl (lv_at hl 4 rfl) ?_
    refine k_rVI (As := []) (rest := []) (r := S1) hx hb hml hown hts (cn_Model_thrown l D ca (qm 0) (qm 1) (qm 2) (qm 3) (qm 4) (qm 5) (qm 6) (qm 7) (qm 8) (qm 9) (qm 10) (qm 11) (qm 12) (qm 13) (qm 14) (qm 15) (qm 16) (qm 17) (qm 18) (qm 19) (qm 20) (qm 21) (qm 22) (qm 23) (qm 24) ((va_up (va_up i 0 S1) 4 S2) 0) ((va_up (va_up i 0 S1) 4 S2) 1) ((va_up (va_up i 0 S1) 4 S2) 2) ((va_up (va_up i 0 S1) 4 S2) 3) ((va_up (va_up i 0 S1) 4 S2) 4) ((va_up (va_up i 0 S1) 4 S2) 5) ((va_up (va_up i 0 S1) 4 S2) 6) ((va_up (va_up i 0 S1) 4 S2) 7) S1 rfl) kc_Model_thrown kv_Model_thrown tt_820 ⟨by decide, by decide⟩ rfl rfl hP hK [63] rfl 0 rfl rfl rfl rfl hl.1 (Nat.le_of_ble_eq_true rfl) rfl nd_Law_law_286 ⟨by show _ ≤ 601024; omega, by show _ ≤ 7293034; omega⟩ ?_
    refine lv_iload hx hb nd_Law_law_289 (lv_at hl 1 rfl) ?_
    refine lv_icmp_eq (tgt := 296) hx hb nd_Law_law_291 (by decide) (fun c4 => ?_) (fun c4 => ?_)
    rotate_left
    · exact absurd et c4
    refine lv_iload hx hb nd_Law_law_296 (lv_at hl 1 rfl) ?_
    refine lv_if_ne (tgt := 313) hx hb nd_Law_law_298 (by decide) (fun c5 => ?_) (fun c5 => ?_)
    rotate_left
    · exact absurd c5 (by decide)
    refine lv_goto (tgt := 1452) hx hb nd_Law_law_313 (by decide) ?_
    refine W.widen (k := 400 + n + 1) (n := 20000 + 6 * n + 6) (by omega) (by omega) ?_
    exact hnext _ _ _ _ _ _ _ _ _ _ _ hRel hP hD hS (lv_sub hl [2, 3, 4, 5, 6] rfl)
set_option maxHeartbeats 8000000 in
set_option maxRecDepth 100000 in
theorem lc_row {p : Program} {l : Launch} {e : Env} {s : State} {m : MethodId} {below : List Frame} {meth : Method} {c : Code} {D : va_G} {ca : Nat → ClassId} {b Ls : Nat} {xs : Nat → Int32} (C0 : lw_At p s m meth c b Ls xs) (hL : Ls ≤ 2560) (hlt : l.stackTraces = false) (hev0 : xt_ev s s.heap) (hK : va_K D vwCl (tyG ca) s) {Rel : (Nat → Int32) → (Nat → Int64) → (Nat → Nat → Int32) → (Nat → Nat → Int64) → (Nat → Int32) → (Nat → Nat → Int32) → (Nat → Nat → Int64) → Prop} {qc qm : Nat → Nat} {qo : Nat} {I : Nat → Int32} {J : Nat → Int64} {A : Nat → Nat → Int32} {L : Nat → Nat → Int64} {i : Nat → Int32} {a : Nat → Nat → Int32} {l9 : Nat → Nat → Int64} {o : Nat → Int64} {n : Nat} (hn : n + 5 ≤ Ls) {H : Heap} {locs : List Loc} {ls : Array Slot} (hP : va_P D vwCl (wA qc qm qo ca I J A L i a l9 o) H) (hD : va_D (fun q : Nat => s.heap.size ≤ q) (wA qc qm qo ca I J A L i a l9 o)) (hS : va_S (fun q : Nat => s.heap.size ≤ q) s.heap H locs) (hl : lv_has ls 8 [(4, .int (nI n)), (3, .ref qo), (2, .ref (qm 0)), (1, .ref (qc 0)), (0, .ref b)]) (hst : st_row Rel I J A L i a l9 o (xs (n + 1)) (xs (n + 2))) (hnext : ∀ (I : Nat → Int32) (J : Nat → Int64) (A : Nat → Nat → Int32) (L : Nat → Nat → Int64) (i : Nat → Int32) (a : Nat → Nat → Int32) (l9 : Nat → Nat → Int64) (o : Nat → Int64) (H : Heap) (locs : List Loc) (ls : Array Slot), Rel I J A L i a l9 → va_P D vwCl (wA qc qm qo ca I J A L i a l9 o) H → va_D (fun q : Nat => s.heap.size ≤ q) (wA qc qm qo ca I J A L i a l9 o) → va_S (fun q : Nat => s.heap.size ≤ q) s.heap H locs → lv_has ls 8 [(4, .int (nI n)), (3, .ref qo), (2, .ref (qm 0)), (1, .ref (qc 0)), (0, .ref b)] → W p l e room_1 s m #[Value.ref b] below meth c H locs (400 + n + 1) (20000 + 6 * n + 6) (lw_Z below #[Value.ref b] s) (F0 m 1452 ls [])) : W p l e room_1 s m #[Value.ref b] below meth c H locs (400 + n) (20000 + 6 * n) (lw_Z below #[Value.ref b] s) (F0 m 316 ls []) := by
  obtain ⟨hx, hb, hr, hml, hown, hts0, hX, hbl, hlocks, hgv⟩ := C0
  have hts : ∀ w ∈ TT, w.before #[Value.ref b] s = true := fun w h => hts0 w (List.mem_filter.mp h).1
  have hA : ∀ q : Nat, s.heap.size ≤ q → (fun q : Nat => s.heap.size ≤ q) q := fun _ h => h
  have hbA : ¬ (fun q : Nat => s.heap.size ≤ q) b := Nat.not_le.mpr hbl
  have hown : s.vm.findClass nR_Law = some m.cls := hown
  have hev : xt_ev s H := k_evH hev0 hS
  unfold st_row at hst
  rcases hst with ⟨R1, R2, R3, R4, S0, S1, S2, S3, S4, e1, e2, et, ea, hRel⟩ | ⟨S0, S1, S2, S3, S4, e1, e2, et, hRel⟩ | ⟨S0, S1, S2, S3, S4, e1, e2, et, hRel⟩
  ·
    refine lv_aload_n hx hb nd_Law_law_316 rfl (lv_at hl 3 rfl) ?_
    refine lv_aload_n hx hb nd_Law_law_317 rfl (lv_at hl 4 rfl) ?_
    refine lv_iload hx hb nd_Law_law_318 (lv_at hl 0 rfl) ?_
    refine lv_iconst (v := 1) hx hb nd_Law_law_320 (by decide) ?_
    refine lv_iadd hx hb nd_Law_law_321 ?_
    refine k_sld (n := n) (j := 1) hx hb hX hbl hbA hS (k_sidx rfl) (by omega) hL nd_Law_law_322 ?_
    refine lv_aload_n hx hb nd_Law_law_323 rfl (lv_at hl 4 rfl) ?_
    refine lv_iload hx hb nd_Law_law_324 (lv_at hl 0 rfl) ?_
    refine lv_iconst (v := 2) hx hb nd_Law_law_326 (by decide) ?_
    refine lv_iadd hx hb nd_Law_law_327 ?_
    refine k_sld (n := n) (j := 2) hx hb hX hbl hbA hS (k_sidx rfl) (by omega) hL nd_Law_law_328 ?_
    refine lv_aload_n hx hb nd_Law_law_329 rfl (lv_at hl 1 rfl) ?_
    refine k_uSWI (w2 := wA qc qm qo ca (va_up I 5 R3) J (va_up (va_up A 2 R1) 3 R2) L i a l9 R4) (As := [.ref (qc 0), .int (xs (n + 1)), .int (xs (n + 2)), .ref qo]) (rest := []) (r := 0) hx hb hml hown hts (cn_Law_row l D ca (qc 0) (qc 1) (qc 19) (qc 34) (qc 47) (qc 48) (qc 58) (qc 2) (qc 5) (qc 9) (qc 13) (qc 10) (qc 11) (qc 12) qo (I 0) (I 4) (J 2) (I 5) (A 2) (A 3) o (xs (n + 1)) (xs (n + 2)) (0 : Int32) R1 R2 R3 R4 e1 _) kc_Law_row ks_Law_row tt_388 ⟨by decide, by decide⟩ rfl rfl hP hK hD hS hA [0, 1, 9, 10, 11, 12, 88] rfl (by decide +kernel) rfl rfl rfl hl.1 (Nat.le_of_ble_eq_true rfl) rfl nd_Law_law_330 ⟨by show _ ≤ 601024; omega, by show _ ≤ 7293034; omega⟩ (fun H locs hP hD hS => ?_)
    refine W.widen (k := 400 + n) (n := 20000 + 6 * n) (by omega) (by omega) ?_
    refine lv_istore (lv' := [(5, .int 0), (4, .int (nI n)), (3, .ref qo), (2, .ref (qm 0)), (1, .ref (qc 0)), (0, .ref b)]) hx hb nd_Law_law_333 hl (by decide) rfl (fun ls hl => ?_)
    refine lv_aload_n hx hb nd_Law_law_335 rfl (lv_at hl 3 rfl) ?_
    refine lv_aload_n hx hb nd_Law_law_336 rfl (lv_at hl 5 rfl) ?_
    refine lv_iload hx hb nd_Law_law_337 (lv_at hl 1 rfl) ?_
    refine lv_iconst (v := 1) hx hb nd_Law_law_339 (by decide) ?_
    refine lv_iadd hx hb nd_Law_law_340 ?_
    refine k_sld (n := n) (j := 1) hx hb hX hbl hbA hS (k_sidx rfl) (by omega) hL nd_Law_law_341 ?_
    refine lv_aload_n hx hb nd_Law_law_342 rfl (lv_at hl 5 rfl) ?_
    refine lv_iload hx hb nd_Law_law_343 (lv_at hl 1 rfl) ?_
    refine lv_iconst (v := 2) hx hb nd_Law_law_345 (by decide) ?_
    refine lv_iadd hx hb nd_Law_law_346 ?_
    refine k_sld (n := n) (j := 2) hx hb hX hbl hbA hS (k_sidx rfl) (by omega) hL nd_Law_law_347 ?_
    refine k_uVI (w2 := wA qc qm qo ca (va_up I 5 R3) J (va_up (va_up A 2 R1) 3 R2) L (va_up (va_up i 0 S1) 5 S4) (va_up (va_up a 2 S2) 3 S3) l9 R4) (As := [.int (xs (n + 1)), .int (xs (n + 2))]) (rest := []) (r := S0) hx hb hml hown hts (cn_Model_row l D ca (qm 0) (qm 1) (qm 2) (qm 3) (qm 4) (qm 5) (qm 6) (qm 7) (qm 8) (qm 9) (qm 10) (qm 11) (qm 12) (qm 13) (qm 14) (qm 15) (qm 16) (qm 17) (qm 18) (qm 19) (qm 20) (qm 21) (qm 22) (qm 23) (qm 24) (i 0) (i 1) (i 2) (i 3) (i 4) (i 5) (i 6) (i 7) (a 2) (a 3) (xs (n + 1)) (xs (n + 2)) S0 S1 S2 S3 S4 e2 _) kc_Model_row kv_Model_row tt_844 ⟨by decide, by decide⟩ rfl rfl hP hK hD hS hA [63, 70, 71] rfl (by decide +kernel) rfl rfl 0 rfl rfl rfl rfl hl.1 (Nat.le_of_ble_eq_true rfl) rfl nd_Law_law_348 ⟨by show _ ≤ 601024; omega, by show _ ≤ 7293034; omega⟩ (fun H locs hP hD hS => ?_)
    refine lv_istore (lv' := [(6, .int S0), (5, .int 0), (4, .int (nI n)), (3, .ref qo), (2, .ref (qm 0)), (1, .ref (qc 0)), (0, .ref b)]) hx hb nd_Law_law_351 hl (by decide) rfl (fun ls hl => ?_)
    refine lv_aload_n hx hb nd_Law_law_353 rfl (lv_at hl 4 rfl) ?_
    refine k_rVI (As := []) (rest := []) (r := S1) hx hb hml hown hts (cn_Model_thrown l D ca (qm 0) (qm 1) (qm 2) (qm 3) (qm 4) (qm 5) (qm 6) (qm 7) (qm 8) (qm 9) (qm 10) (qm 11) (qm 12) (qm 13) (qm 14) (qm 15) (qm 16) (qm 17) (qm 18) (qm 19) (qm 20) (qm 21) (qm 22) (qm 23) (qm 24) ((va_up (va_up i 0 S1) 5 S4) 0) ((va_up (va_up i 0 S1) 5 S4) 1) ((va_up (va_up i 0 S1) 5 S4) 2) ((va_up (va_up i 0 S1) 5 S4) 3) ((va_up (va_up i 0 S1) 5 S4) 4) ((va_up (va_up i 0 S1) 5 S4) 5) ((va_up (va_up i 0 S1) 5 S4) 6) ((va_up (va_up i 0 S1) 5 S4) 7) S1 rfl) kc_Model_thrown kv_Model_thrown tt_820 ⟨by decide, by decide⟩ rfl rfl hP hK [63] rfl 0 rfl rfl rfl rfl hl.1 (Nat.le_of_ble_eq_true rfl) rfl nd_Law_law_354 ⟨by show _ ≤ 601024; omega, by show _ ≤ 7293034; omega⟩ ?_
    refine lv_iload hx hb nd_Law_law_357 (lv_at hl 1 rfl) ?_
    refine lv_icmp_eq (tgt := 364) hx hb nd_Law_law_359 (by decide) (fun c1 => ?_) (fun c1 => ?_)
    rotate_left
    · exact absurd et c1
    refine lv_iload hx hb nd_Law_law_364 (lv_at hl 1 rfl) ?_
    refine lv_if_ne (tgt := 381) hx hb nd_Law_law_366 (by decide) (fun c2 => ?_) (fun c2 => ?_)
    · exact absurd rfl c2
    refine lv_aload_n hx hb nd_Law_law_369 rfl (lv_at hl 3 rfl) ?_
    refine lv_iconst (v := 0) hx hb nd_Law_law_370 (by decide) ?_
    refine va_lald hx hb hK hP 88 1 rfl rfl (by unfold vp_in; decide) nd_Law_law_371 ?_
    refine lv_iload hx hb nd_Law_law_372 (lv_at hl 0 rfl) ?_
    refine lv_i2l hx hb nd_Law_law_374 rfl ?_
    refine W.lcmp hx hb nd_Law_law_375 ?_
    refine lv_if_eq (tgt := 381) hx hb nd_Law_law_376 (by decide) (fun c3 => ?_) (fun c3 => ?_)
    rotate_left
    · exact absurd ea c3
    refine lv_goto (tgt := 1452) hx hb nd_Law_law_381 (by decide) ?_
    refine W.widen (k := 400 + n + 1) (n := 20000 + 6 * n + 6) (by omega) (by omega) ?_
    exact hnext _ _ _ _ _ _ _ _ _ _ _ hRel hP hD hS (lv_sub hl [2, 3, 4, 5, 6] rfl)
  ·
    refine lv_aload_n hx hb nd_Law_law_316 rfl (lv_at hl 3 rfl) ?_
    refine lv_aload_n hx hb nd_Law_law_317 rfl (lv_at hl 4 rfl) ?_
    refine lv_iload hx hb nd_Law_law_318 (lv_at hl 0 rfl) ?_
    refine lv_iconst (v := 1) hx hb nd_Law_law_320 (by decide) ?_
    refine lv_iadd hx hb nd_Law_law_321 ?_
    refine k_sld (n := n) (j := 1) hx hb hX hbl hbA hS (k_sidx rfl) (by omega) hL nd_Law_law_322 ?_
    refine lv_aload_n hx hb nd_Law_law_323 rfl (lv_at hl 4 rfl) ?_
    refine lv_iload hx hb nd_Law_law_324 (lv_at hl 0 rfl) ?_
    refine lv_iconst (v := 2) hx hb nd_Law_law_326 (by decide) ?_
    refine lv_iadd hx hb nd_Law_law_327 ?_
    refine k_sld (n := n) (j := 2) hx hb hX hbl hbA hS (k_sidx rfl) (by omega) hL nd_Law_law_328 ?_
    refine lv_aload_n hx hb nd_Law_law_329 rfl (lv_at hl 1 rfl) ?_
    refine k_uSWX (w2 := wA qc qm qo ca I J A L i a l9 o) (As := [.ref (qc 0), .int (xs (n + 1)), .int (xs (n + 2)), .ref qo]) (rest := []) (r := 1) hx hb hml hown hts (hx_Law_row_2 l hlt D ca (qc 0) (qc 1) (qc 19) (qc 34) (qc 47) (qc 48) (qc 58) (qc 2) (qc 5) (qc 9) (qc 13) (qc 10) (qc 11) (qc 12) qo (I 0) (I 4) (J 2) (I 5) (A 2) (A 3) o (xs (n + 1)) (xs (n + 2)) e1 _) kc_Law_row ks_Law_row tt_388 ⟨by decide, by decide⟩ rfl rfl hP hK hD hS hA hev [0, 1, 9, 10, 11, 12, 88] rfl (by decide +kernel) rfl rfl rfl hl.1 (Nat.le_of_ble_eq_true rfl) rfl nd_Law_law_330 ⟨by show _ ≤ 601024; omega, by show _ ≤ 7293034; omega⟩ (fun H locs hP hD hS => ?_)
    refine W.widen (k := 400 + n + 1) (n := 20000 + 6 * n + 6) (by omega) (by omega) ?_
    refine lv_istore (lv' := [(5, .int 1), (4, .int (nI n)), (3, .ref qo), (2, .ref (qm 0)), (1, .ref (qc 0)), (0, .ref b)]) hx hb nd_Law_law_333 hl (by decide) rfl (fun ls hl => ?_)
    refine lv_aload_n hx hb nd_Law_law_335 rfl (lv_at hl 3 rfl) ?_
    refine lv_aload_n hx hb nd_Law_law_336 rfl (lv_at hl 5 rfl) ?_
    refine lv_iload hx hb nd_Law_law_337 (lv_at hl 1 rfl) ?_
    refine lv_iconst (v := 1) hx hb nd_Law_law_339 (by decide) ?_
    refine lv_iadd hx hb nd_Law_law_340 ?_
    refine k_sld (n := n) (j := 1) hx hb hX hbl hbA hS (k_sidx rfl) (by omega) hL nd_Law_law_341 ?_
    refine lv_aload_n hx hb nd_Law_law_342 rfl (lv_at hl 5 rfl) ?_
    refine lv_iload hx hb nd_Law_law_343 (lv_at hl 1 rfl) ?_
    refine lv_iconst (v := 2) hx hb nd_Law_law_345 (by decide) ?_
    refine lv_iadd hx hb nd_Law_law_346 ?_
    refine k_sld (n := n) (j := 2) hx hb hX hbl hbA hS (k_sidx rfl) (by omega) hL nd_Law_law_347 ?_
    refine k_uVI (w2 := wA qc qm qo ca I J A L (va_up (va_up i 0 S1) 5 S4) (va_up (va_up a 2 S2) 3 S3) l9 o) (As := [.int (xs (n + 1)), .int (xs (n + 2))]) (rest := []) (r := S0) hx hb hml hown hts (cn_Model_row l D ca (qm 0) (qm 1) (qm 2) (qm 3) (qm 4) (qm 5) (qm 6) (qm 7) (qm 8) (qm 9) (qm 10) (qm 11) (qm 12) (qm 13) (qm 14) (qm 15) (qm 16) (qm 17) (qm 18) (qm 19) (qm 20) (qm 21) (qm 22) (qm 23) (qm 24) (i 0) (i 1) (i 2) (i 3) (i 4) (i 5) (i 6) (i 7) (a 2) (a 3) (xs (n + 1)) (xs (n + 2)) S0 S1 S2 S3 S4 e2 _) kc_Model_row kv_Model_row tt_844 ⟨by decide, by decide⟩ rfl rfl hP hK hD hS hA [63, 70, 71] rfl (by decide +kernel) rfl rfl 0 rfl rfl rfl rfl hl.1 (Nat.le_of_ble_eq_true rfl) rfl nd_Law_law_348 ⟨by show _ ≤ 601024; omega, by show _ ≤ 7293034; omega⟩ (fun H locs hP hD hS => ?_)
    refine lv_istore (lv' := [(6, .int S0), (5, .int 1), (4, .int (nI n)), (3, .ref qo), (2, .ref (qm 0)), (1, .ref (qc 0)), (0, .ref b)]) hx hb nd_Law_law_351 hl (by decide) rfl (fun ls hl => ?_)
    refine lv_aload_n hx hb nd_Law_law_353 rfl (lv_at hl 4 rfl) ?_
    refine k_rVI (As := []) (rest := []) (r := S1) hx hb hml hown hts (cn_Model_thrown l D ca (qm 0) (qm 1) (qm 2) (qm 3) (qm 4) (qm 5) (qm 6) (qm 7) (qm 8) (qm 9) (qm 10) (qm 11) (qm 12) (qm 13) (qm 14) (qm 15) (qm 16) (qm 17) (qm 18) (qm 19) (qm 20) (qm 21) (qm 22) (qm 23) (qm 24) ((va_up (va_up i 0 S1) 5 S4) 0) ((va_up (va_up i 0 S1) 5 S4) 1) ((va_up (va_up i 0 S1) 5 S4) 2) ((va_up (va_up i 0 S1) 5 S4) 3) ((va_up (va_up i 0 S1) 5 S4) 4) ((va_up (va_up i 0 S1) 5 S4) 5) ((va_up (va_up i 0 S1) 5 S4) 6) ((va_up (va_up i 0 S1) 5 S4) 7) S1 rfl) kc_Model_thrown kv_Model_thrown tt_820 ⟨by decide, by decide⟩ rfl rfl hP hK [63] rfl 0 rfl rfl rfl rfl hl.1 (Nat.le_of_ble_eq_true rfl) rfl nd_Law_law_354 ⟨by show _ ≤ 601024; omega, by show _ ≤ 7293034; omega⟩ ?_
    refine lv_iload hx hb nd_Law_law_357 (lv_at hl 1 rfl) ?_
    refine lv_icmp_eq (tgt := 364) hx hb nd_Law_law_359 (by decide) (fun c4 => ?_) (fun c4 => ?_)
    rotate_left
    · exact absurd et c4
    refine lv_iload hx hb nd_Law_law_364 (lv_at hl 1 rfl) ?_
    refine lv_if_ne (tgt := 381) hx hb nd_Law_law_366 (by decide) (fun c5 => ?_) (fun c5 => ?_)
    rotate_left
    · exact absurd c5 (by decide)
    refine lv_goto (tgt := 1452) hx hb nd_Law_law_381 (by decide) ?_
    refine W.widen (k := 400 + n + 1) (n := 20000 + 6 * n + 6) (by omega) (by omega) ?_
    exact hnext _ _ _ _ _ _ _ _ _ _ _ hRel hP hD hS (lv_sub hl [2, 3, 4, 5, 6] rfl)
  ·
    refine lv_aload_n hx hb nd_Law_law_316 rfl (lv_at hl 3 rfl) ?_
    refine lv_aload_n hx hb nd_Law_law_317 rfl (lv_at hl 4 rfl) ?_
    refine lv_iload hx hb nd_Law_law_318 (lv_at hl 0 rfl) ?_
    refine lv_iconst (v := 1) hx hb nd_Law_law_320 (by decide) ?_
    refine lv_iadd hx hb nd_Law_law_321 ?_
    refine k_sld (n := n) (j := 1) hx hb hX hbl hbA hS (k_sidx rfl) (by omega) hL nd_Law_law_322 ?_
    refine lv_aload_n hx hb nd_Law_law_323 rfl (lv_at hl 4 rfl) ?_
    refine lv_iload hx hb nd_Law_law_324 (lv_at hl 0 rfl) ?_
    refine lv_iconst (v := 2) hx hb nd_Law_law_326 (by decide) ?_
    refine lv_iadd hx hb nd_Law_law_327 ?_
    refine k_sld (n := n) (j := 2) hx hb hX hbl hbA hS (k_sidx rfl) (by omega) hL nd_Law_law_328 ?_
    refine lv_aload_n hx hb nd_Law_law_329 rfl (lv_at hl 1 rfl) ?_
    refine k_uSWX (w2 := wA qc qm qo ca I J A L i a l9 o) (As := [.ref (qc 0), .int (xs (n + 1)), .int (xs (n + 2)), .ref qo]) (rest := []) (r := 2) hx hb hml hown hts (hx_Law_row_3 l hlt D ca (qc 0) (qc 1) (qc 19) (qc 34) (qc 47) (qc 48) (qc 58) (qc 2) (qc 5) (qc 9) (qc 13) (qc 10) (qc 11) (qc 12) qo (I 0) (I 4) (J 2) (I 5) (A 2) (A 3) o (xs (n + 1)) (xs (n + 2)) e1 _) kc_Law_row ks_Law_row tt_388 ⟨by decide, by decide⟩ rfl rfl hP hK hD hS hA hev [0, 1, 9, 10, 11, 12, 88] rfl (by decide +kernel) rfl rfl rfl hl.1 (Nat.le_of_ble_eq_true rfl) rfl nd_Law_law_330 ⟨by show _ ≤ 601024; omega, by show _ ≤ 7293034; omega⟩ (fun H locs hP hD hS => ?_)
    refine W.widen (k := 400 + n + 1) (n := 20000 + 6 * n + 6) (by omega) (by omega) ?_
    refine lv_istore (lv' := [(5, .int 2), (4, .int (nI n)), (3, .ref qo), (2, .ref (qm 0)), (1, .ref (qc 0)), (0, .ref b)]) hx hb nd_Law_law_333 hl (by decide) rfl (fun ls hl => ?_)
    refine lv_aload_n hx hb nd_Law_law_335 rfl (lv_at hl 3 rfl) ?_
    refine lv_aload_n hx hb nd_Law_law_336 rfl (lv_at hl 5 rfl) ?_
    refine lv_iload hx hb nd_Law_law_337 (lv_at hl 1 rfl) ?_
    refine lv_iconst (v := 1) hx hb nd_Law_law_339 (by decide) ?_
    refine lv_iadd hx hb nd_Law_law_340 ?_
    refine k_sld (n := n) (j := 1) hx hb hX hbl hbA hS (k_sidx rfl) (by omega) hL nd_Law_law_341 ?_
    refine lv_aload_n hx hb nd_Law_law_342 rfl (lv_at hl 5 rfl) ?_
    refine lv_iload hx hb nd_Law_law_343 (lv_at hl 1 rfl) ?_
    refine lv_iconst (v := 2) hx hb nd_Law_law_345 (by decide) ?_
    refine lv_iadd hx hb nd_Law_law_346 ?_
    refine k_sld (n := n) (j := 2) hx hb hX hbl hbA hS (k_sidx rfl) (by omega) hL nd_Law_law_347 ?_
    refine k_uVI (w2 := wA qc qm qo ca I J A L (va_up (va_up i 0 S1) 5 S4) (va_up (va_up a 2 S2) 3 S3) l9 o) (As := [.int (xs (n + 1)), .int (xs (n + 2))]) (rest := []) (r := S0) hx hb hml hown hts (cn_Model_row l D ca (qm 0) (qm 1) (qm 2) (qm 3) (qm 4) (qm 5) (qm 6) (qm 7) (qm 8) (qm 9) (qm 10) (qm 11) (qm 12) (qm 13) (qm 14) (qm 15) (qm 16) (qm 17) (qm 18) (qm 19) (qm 20) (qm 21) (qm 22) (qm 23) (qm 24) (i 0) (i 1) (i 2) (i 3) (i 4) (i 5) (i 6) (i 7) (a 2) (a 3) (xs (n + 1)) (xs (n + 2)) S0 S1 S2 S3 S4 e2 _) kc_Model_row kv_Model_row tt_844 ⟨by decide, by decide⟩ rfl rfl hP hK hD hS hA [63, 70, 71] rfl (by decide +kernel) rfl rfl 0 rfl rfl rfl rfl hl.1 (Nat.le_of_ble_eq_true rfl) rfl nd_Law_law_348 ⟨by show _ ≤ 601024; omega, by show _ ≤ 7293034; omega⟩ (fun H locs hP hD hS => ?_)
    refine lv_istore (lv' := [(6, .int S0), (5, .int 2), (4, .int (nI n)), (3, .ref qo), (2, .ref (qm 0)), (1, .ref (qc 0)), (0, .ref b)]) hx hb nd_Law_law_351 hl (by decide) rfl (fun ls hl => ?_)
    refine lv_aload_n hx hb nd_Law_law_353 rfl (lv_at hl 4 rfl) ?_
    refine k_rVI (As := []) (rest := []) (r := S1) hx hb hml hown hts (cn_Model_thrown l D ca (qm 0) (qm 1) (qm 2) (qm 3) (qm 4) (qm 5) (qm 6) (qm 7) (qm 8) (qm 9) (qm 10) (qm 11) (qm 12) (qm 13) (qm 14) (qm 15) (qm 16) (qm 17) (qm 18) (qm 19) (qm 20) (qm 21) (qm 22) (qm 23) (qm 24) ((va_up (va_up i 0 S1) 5 S4) 0) ((va_up (va_up i 0 S1) 5 S4) 1) ((va_up (va_up i 0 S1) 5 S4) 2) ((va_up (va_up i 0 S1) 5 S4) 3) ((va_up (va_up i 0 S1) 5 S4) 4) ((va_up (va_up i 0 S1) 5 S4) 5) ((va_up (va_up i 0 S1) 5 S4) 6) ((va_up (va_up i 0 S1) 5 S4) 7) S1 rfl) kc_Model_thrown kv_Model_thrown tt_820 ⟨by decide, by decide⟩ rfl rfl hP hK [63] rfl 0 rfl rfl rfl rfl hl.1 (Nat.le_of_ble_eq_true rfl) rfl nd_Law_law_354 ⟨by show _ ≤ 601024; omega, by show _ ≤ 7293034; omega⟩ ?_
    refine lv_iload hx hb nd_Law_law_357 (lv_at hl 1 rfl) ?_
    refine lv_icmp_eq (tgt := 364) hx hb nd_Law_law_359 (by decide) (fun c6 => ?_) (fun c6 => ?_)
    rotate_left
    · exact absurd et c6
    refine lv_iload hx hb nd_Law_law_364 (lv_at hl 1 rfl) ?_
    refine lv_if_ne (tgt := 381) hx hb nd_Law_law_366 (by decide) (fun c7 => ?_) (fun c7 => ?_)
    rotate_left
    · exact absurd c7 (by decide)
    refine lv_goto (tgt := 1452) hx hb nd_Law_law_381 (by decide) ?_
    refine W.widen (k := 400 + n + 1) (n := 20000 + 6 * n + 6) (by omega) (by omega) ?_
    exact hnext _ _ _ _ _ _ _ _ _ _ _ hRel hP hD hS (lv_sub hl [2, 3, 4, 5, 6] rfl)
set_option maxHeartbeats 8000000 in
set_option maxRecDepth 100000 in
theorem lc_machine {p : Program} {l : Launch} {e : Env} {s : State} {m : MethodId} {below : List Frame} {meth : Method} {c : Code} {D : va_G} {ca : Nat → ClassId} {b Ls : Nat} {xs : Nat → Int32} (C0 : lw_At p s m meth c b Ls xs) (hL : Ls ≤ 2560) (hlt : l.stackTraces = false) (hev0 : xt_ev s s.heap) (hK : va_K D vwCl (tyG ca) s) {Rel : (Nat → Int32) → (Nat → Int64) → (Nat → Nat → Int32) → (Nat → Nat → Int64) → (Nat → Int32) → (Nat → Nat → Int32) → (Nat → Nat → Int64) → Prop} {qc qm : Nat → Nat} {qo : Nat} {I : Nat → Int32} {J : Nat → Int64} {A : Nat → Nat → Int32} {L : Nat → Nat → Int64} {i : Nat → Int32} {a : Nat → Nat → Int32} {l9 : Nat → Nat → Int64} {o : Nat → Int64} {n : Nat} (hn : n + 5 ≤ Ls) {H : Heap} {locs : List Loc} {ls : Array Slot} (hP : va_P D vwCl (wA qc qm qo ca I J A L i a l9 o) H) (hD : va_D (fun q : Nat => s.heap.size ≤ q) (wA qc qm qo ca I J A L i a l9 o)) (hS : va_S (fun q : Nat => s.heap.size ≤ q) s.heap H locs) (hl : lv_has ls 8 [(4, .int (nI n)), (3, .ref qo), (2, .ref (qm 0)), (1, .ref (qc 0)), (0, .ref b)]) (hst : st_machine Rel I J A L i a l9 o (xs (n + 1)) (xs (n + 2)) (xs (n + 3)) (xs (n + 4))) (hnext : ∀ (I : Nat → Int32) (J : Nat → Int64) (A : Nat → Nat → Int32) (L : Nat → Nat → Int64) (i : Nat → Int32) (a : Nat → Nat → Int32) (l9 : Nat → Nat → Int64) (o : Nat → Int64) (H : Heap) (locs : List Loc) (ls : Array Slot), Rel I J A L i a l9 → va_P D vwCl (wA qc qm qo ca I J A L i a l9 o) H → va_D (fun q : Nat => s.heap.size ≤ q) (wA qc qm qo ca I J A L i a l9 o) → va_S (fun q : Nat => s.heap.size ≤ q) s.heap H locs → lv_has ls 8 [(4, .int (nI n)), (3, .ref qo), (2, .ref (qm 0)), (1, .ref (qc 0)), (0, .ref b)] → W p l e room_1 s m #[Value.ref b] below meth c H locs (400 + n + 1) (20000 + 6 * n + 6) (lw_Z below #[Value.ref b] s) (F0 m 1452 ls [])) : W p l e room_1 s m #[Value.ref b] below meth c H locs (400 + n) (20000 + 6 * n) (lw_Z below #[Value.ref b] s) (F0 m 384 ls []) := by
  obtain ⟨hx, hb, hr, hml, hown, hts0, hX, hbl, hlocks, hgv⟩ := C0
  have hts : ∀ w ∈ TT, w.before #[Value.ref b] s = true := fun w h => hts0 w (List.mem_filter.mp h).1
  have hA : ∀ q : Nat, s.heap.size ≤ q → (fun q : Nat => s.heap.size ≤ q) q := fun _ h => h
  have hbA : ¬ (fun q : Nat => s.heap.size ≤ q) b := Nat.not_le.mpr hbl
  have hown : s.vm.findClass nR_Law = some m.cls := hown
  have hev : xt_ev s H := k_evH hev0 hS
  unfold st_machine at hst
  rcases hst with ⟨R1, R2, R3, R4, R5, S0, S1, S2, S3, S4, S5, e1, e2, et, ea, hRel⟩ | ⟨S0, S1, S2, S3, S4, S5, e1, e2, et, hRel⟩ | ⟨S0, S1, S2, S3, S4, S5, e1, e2, et, hRel⟩
  ·
    refine lv_aload_n hx hb nd_Law_law_384 rfl (lv_at hl 3 rfl) ?_
    refine lv_aload_n hx hb nd_Law_law_385 rfl (lv_at hl 4 rfl) ?_
    refine lv_iload hx hb nd_Law_law_386 (lv_at hl 0 rfl) ?_
    refine lv_iconst (v := 1) hx hb nd_Law_law_388 (by decide) ?_
    refine lv_iadd hx hb nd_Law_law_389 ?_
    refine k_sld (n := n) (j := 1) hx hb hX hbl hbA hS (k_sidx rfl) (by omega) hL nd_Law_law_390 ?_
    refine lv_aload_n hx hb nd_Law_law_391 rfl (lv_at hl 4 rfl) ?_
    refine lv_iload hx hb nd_Law_law_392 (lv_at hl 0 rfl) ?_
    refine lv_iconst (v := 2) hx hb nd_Law_law_394 (by decide) ?_
    refine lv_iadd hx hb nd_Law_law_395 ?_
    refine k_sld (n := n) (j := 2) hx hb hX hbl hbA hS (k_sidx rfl) (by omega) hL nd_Law_law_396 ?_
    refine lv_aload_n hx hb nd_Law_law_397 rfl (lv_at hl 4 rfl) ?_
    refine lv_iload hx hb nd_Law_law_398 (lv_at hl 0 rfl) ?_
    refine lv_iconst (v := 3) hx hb nd_Law_law_400 (by decide) ?_
    refine lv_iadd hx hb nd_Law_law_401 ?_
    refine k_sld (n := n) (j := 3) hx hb hX hbl hbA hS (k_sidx rfl) (by omega) hL nd_Law_law_402 ?_
    refine lv_aload_n hx hb nd_Law_law_403 rfl (lv_at hl 4 rfl) ?_
    refine lv_iload hx hb nd_Law_law_404 (lv_at hl 0 rfl) ?_
    refine lv_iconst (v := 4) hx hb nd_Law_law_406 (by decide) ?_
    refine lv_iadd hx hb nd_Law_law_407 ?_
    refine k_sld (n := n) (j := 4) hx hb hX hbl hbA hS (k_sidx rfl) (by omega) hL nd_Law_law_408 ?_
    refine k_uSWI (w2 := wA qc qm qo ca I J (va_up (va_up (va_up (va_up (va_up A 4 R1) 5 R2) 6 R3) 7 R4) 8 R5) L i a l9 o) (As := [.ref (qc 0), .int (xs (n + 1)), .int (xs (n + 2)), .int (xs (n + 3)), .int (xs (n + 4))]) (rest := []) (r := 0) hx hb hml hown hts (cn_Law_machine l D ca (qc 0) (qc 1) (qc 19) (qc 34) (qc 47) (qc 48) (qc 58) (qc 2) (qc 5) (qc 9) (qc 13) (qc 14) (qc 15) (qc 16) (qc 17) (qc 18) (I 0) (A 4) (A 5) (A 6) (A 7) (A 8) (xs (n + 1)) (xs (n + 2)) (xs (n + 3)) (xs (n + 4)) (0 : Int32) R1 R2 R3 R4 R5 e1 _) kc_Law_machine ks_Law_machine tt_408 ⟨by decide, by decide⟩ rfl rfl hP hK hD hS hA [0, 1, 13, 14, 15, 16, 17, 18] rfl (by decide +kernel) rfl rfl rfl hl.1 (Nat.le_of_ble_eq_true rfl) rfl nd_Law_law_409 ⟨by show _ ≤ 601024; omega, by show _ ≤ 7293034; omega⟩ (fun H locs hP hD hS => ?_)
    refine W.widen (k := 400 + n) (n := 20000 + 6 * n) (by omega) (by omega) ?_
    refine lv_istore (lv' := [(5, .int 0), (4, .int (nI n)), (3, .ref qo), (2, .ref (qm 0)), (1, .ref (qc 0)), (0, .ref b)]) hx hb nd_Law_law_412 hl (by decide) rfl (fun ls hl => ?_)
    refine lv_aload_n hx hb nd_Law_law_414 rfl (lv_at hl 3 rfl) ?_
    refine lv_aload_n hx hb nd_Law_law_415 rfl (lv_at hl 5 rfl) ?_
    refine lv_iload hx hb nd_Law_law_416 (lv_at hl 1 rfl) ?_
    refine lv_iconst (v := 1) hx hb nd_Law_law_418 (by decide) ?_
    refine lv_iadd hx hb nd_Law_law_419 ?_
    refine k_sld (n := n) (j := 1) hx hb hX hbl hbA hS (k_sidx rfl) (by omega) hL nd_Law_law_420 ?_
    refine lv_aload_n hx hb nd_Law_law_421 rfl (lv_at hl 5 rfl) ?_
    refine lv_iload hx hb nd_Law_law_422 (lv_at hl 1 rfl) ?_
    refine lv_iconst (v := 2) hx hb nd_Law_law_424 (by decide) ?_
    refine lv_iadd hx hb nd_Law_law_425 ?_
    refine k_sld (n := n) (j := 2) hx hb hX hbl hbA hS (k_sidx rfl) (by omega) hL nd_Law_law_426 ?_
    refine lv_aload_n hx hb nd_Law_law_427 rfl (lv_at hl 5 rfl) ?_
    refine lv_iload hx hb nd_Law_law_428 (lv_at hl 1 rfl) ?_
    refine lv_iconst (v := 3) hx hb nd_Law_law_430 (by decide) ?_
    refine lv_iadd hx hb nd_Law_law_431 ?_
    refine k_sld (n := n) (j := 3) hx hb hX hbl hbA hS (k_sidx rfl) (by omega) hL nd_Law_law_432 ?_
    refine lv_aload_n hx hb nd_Law_law_433 rfl (lv_at hl 5 rfl) ?_
    refine lv_iload hx hb nd_Law_law_434 (lv_at hl 1 rfl) ?_
    refine lv_iconst (v := 4) hx hb nd_Law_law_436 (by decide) ?_
    refine lv_iadd hx hb nd_Law_law_437 ?_
    refine k_sld (n := n) (j := 4) hx hb hX hbl hbA hS (k_sidx rfl) (by omega) hL nd_Law_law_438 ?_
    refine k_uVV (w2 := wA qc qm qo ca I J (va_up (va_up (va_up (va_up (va_up A 4 R1) 5 R2) 6 R3) 7 R4) 8 R5) L (va_up i 0 S0) (va_up (va_up (va_up (va_up a 4 S1) 5 S2) 6 S3) 7 S4) (va_up l9 0 S5) o) (As := [.int (xs (n + 1)), .int (xs (n + 2)), .int (xs (n + 3)), .int (xs (n + 4))]) (rest := []) hx hb hml hown hts (cn_Model_machine l D ca (qm 0) (qm 1) (qm 2) (qm 3) (qm 4) (qm 5) (qm 6) (qm 7) (qm 8) (qm 9) (qm 10) (qm 11) (qm 12) (qm 13) (qm 14) (qm 15) (qm 16) (qm 17) (qm 18) (qm 19) (qm 20) (qm 21) (qm 22) (qm 23) (qm 24) (i 0) (i 1) (i 2) (i 3) (i 4) (i 5) (i 6) (i 7) (a 4) (a 5) (a 6) (a 7) (l9 0) (xs (n + 1)) (xs (n + 2)) (xs (n + 3)) (xs (n + 4)) S0 S1 S2 S3 S4 S5 e2 _) kc_Model_machine kv_Model_machine tt_849 ⟨by decide, by decide⟩ rfl rfl hP hK hD hS hA [63, 72, 73, 74, 75, 64] rfl (by decide +kernel) rfl rfl 0 rfl rfl rfl rfl hl.1 (Nat.le_of_ble_eq_true rfl) rfl nd_Law_law_439 ⟨by show _ ≤ 601024; omega, by show _ ≤ 7293034; omega⟩ (fun H locs hP hD hS => ?_)
    refine lv_aload_n hx hb nd_Law_law_442 rfl (lv_at hl 3 rfl) ?_
    refine k_rVI (As := []) (rest := []) (r := S0) hx hb hml hown hts (cn_Model_thrown l D ca (qm 0) (qm 1) (qm 2) (qm 3) (qm 4) (qm 5) (qm 6) (qm 7) (qm 8) (qm 9) (qm 10) (qm 11) (qm 12) (qm 13) (qm 14) (qm 15) (qm 16) (qm 17) (qm 18) (qm 19) (qm 20) (qm 21) (qm 22) (qm 23) (qm 24) ((va_up i 0 S0) 0) ((va_up i 0 S0) 1) ((va_up i 0 S0) 2) ((va_up i 0 S0) 3) ((va_up i 0 S0) 4) ((va_up i 0 S0) 5) ((va_up i 0 S0) 6) ((va_up i 0 S0) 7) S0 rfl) kc_Model_thrown kv_Model_thrown tt_820 ⟨by decide, by decide⟩ rfl rfl hP hK [63] rfl 0 rfl rfl rfl rfl hl.1 (Nat.le_of_ble_eq_true rfl) rfl nd_Law_law_443 ⟨by show _ ≤ 601024; omega, by show _ ≤ 7293034; omega⟩ ?_
    refine lv_iload hx hb nd_Law_law_446 (lv_at hl 0 rfl) ?_
    refine lv_icmp_eq (tgt := 453) hx hb nd_Law_law_448 (by decide) (fun c1 => ?_) (fun c1 => ?_)
    rotate_left
    · exact absurd et c1
    refine lv_goto (tgt := 1452) hx hb nd_Law_law_453 (by decide) ?_
    refine W.widen (k := 400 + n + 1) (n := 20000 + 6 * n + 6) (by omega) (by omega) ?_
    exact hnext _ _ _ _ _ _ _ _ _ _ _ hRel hP hD hS (lv_sub hl [1, 2, 3, 4, 5] rfl)
  ·
    refine lv_aload_n hx hb nd_Law_law_384 rfl (lv_at hl 3 rfl) ?_
    refine lv_aload_n hx hb nd_Law_law_385 rfl (lv_at hl 4 rfl) ?_
    refine lv_iload hx hb nd_Law_law_386 (lv_at hl 0 rfl) ?_
    refine lv_iconst (v := 1) hx hb nd_Law_law_388 (by decide) ?_
    refine lv_iadd hx hb nd_Law_law_389 ?_
    refine k_sld (n := n) (j := 1) hx hb hX hbl hbA hS (k_sidx rfl) (by omega) hL nd_Law_law_390 ?_
    refine lv_aload_n hx hb nd_Law_law_391 rfl (lv_at hl 4 rfl) ?_
    refine lv_iload hx hb nd_Law_law_392 (lv_at hl 0 rfl) ?_
    refine lv_iconst (v := 2) hx hb nd_Law_law_394 (by decide) ?_
    refine lv_iadd hx hb nd_Law_law_395 ?_
    refine k_sld (n := n) (j := 2) hx hb hX hbl hbA hS (k_sidx rfl) (by omega) hL nd_Law_law_396 ?_
    refine lv_aload_n hx hb nd_Law_law_397 rfl (lv_at hl 4 rfl) ?_
    refine lv_iload hx hb nd_Law_law_398 (lv_at hl 0 rfl) ?_
    refine lv_iconst (v := 3) hx hb nd_Law_law_400 (by decide) ?_
    refine lv_iadd hx hb nd_Law_law_401 ?_
    refine k_sld (n := n) (j := 3) hx hb hX hbl hbA hS (k_sidx rfl) (by omega) hL nd_Law_law_402 ?_
    refine lv_aload_n hx hb nd_Law_law_403 rfl (lv_at hl 4 rfl) ?_
    refine lv_iload hx hb nd_Law_law_404 (lv_at hl 0 rfl) ?_
    refine lv_iconst (v := 4) hx hb nd_Law_law_406 (by decide) ?_
    refine lv_iadd hx hb nd_Law_law_407 ?_
    refine k_sld (n := n) (j := 4) hx hb hX hbl hbA hS (k_sidx rfl) (by omega) hL nd_Law_law_408 ?_
    refine k_uSWX (w2 := wA qc qm qo ca I J A L i a l9 o) (As := [.ref (qc 0), .int (xs (n + 1)), .int (xs (n + 2)), .int (xs (n + 3)), .int (xs (n + 4))]) (rest := []) (r := 1) hx hb hml hown hts (hx_Law_machine_1 l hlt D ca (qc 0) (qc 1) (qc 19) (qc 34) (qc 47) (qc 48) (qc 58) (qc 2) (qc 5) (qc 9) (qc 13) (qc 14) (qc 15) (qc 16) (qc 17) (qc 18) (I 0) (A 4) (A 5) (A 6) (A 7) (A 8) (xs (n + 1)) (xs (n + 2)) (xs (n + 3)) (xs (n + 4)) e1 _) kc_Law_machine ks_Law_machine tt_408 ⟨by decide, by decide⟩ rfl rfl hP hK hD hS hA hev [0, 1, 13, 14, 15, 16, 17, 18] rfl (by decide +kernel) rfl rfl rfl hl.1 (Nat.le_of_ble_eq_true rfl) rfl nd_Law_law_409 ⟨by show _ ≤ 601024; omega, by show _ ≤ 7293034; omega⟩ (fun H locs hP hD hS => ?_)
    refine W.widen (k := 400 + n + 1) (n := 20000 + 6 * n + 6) (by omega) (by omega) ?_
    refine lv_istore (lv' := [(5, .int 1), (4, .int (nI n)), (3, .ref qo), (2, .ref (qm 0)), (1, .ref (qc 0)), (0, .ref b)]) hx hb nd_Law_law_412 hl (by decide) rfl (fun ls hl => ?_)
    refine lv_aload_n hx hb nd_Law_law_414 rfl (lv_at hl 3 rfl) ?_
    refine lv_aload_n hx hb nd_Law_law_415 rfl (lv_at hl 5 rfl) ?_
    refine lv_iload hx hb nd_Law_law_416 (lv_at hl 1 rfl) ?_
    refine lv_iconst (v := 1) hx hb nd_Law_law_418 (by decide) ?_
    refine lv_iadd hx hb nd_Law_law_419 ?_
    refine k_sld (n := n) (j := 1) hx hb hX hbl hbA hS (k_sidx rfl) (by omega) hL nd_Law_law_420 ?_
    refine lv_aload_n hx hb nd_Law_law_421 rfl (lv_at hl 5 rfl) ?_
    refine lv_iload hx hb nd_Law_law_422 (lv_at hl 1 rfl) ?_
    refine lv_iconst (v := 2) hx hb nd_Law_law_424 (by decide) ?_
    refine lv_iadd hx hb nd_Law_law_425 ?_
    refine k_sld (n := n) (j := 2) hx hb hX hbl hbA hS (k_sidx rfl) (by omega) hL nd_Law_law_426 ?_
    refine lv_aload_n hx hb nd_Law_law_427 rfl (lv_at hl 5 rfl) ?_
    refine lv_iload hx hb nd_Law_law_428 (lv_at hl 1 rfl) ?_
    refine lv_iconst (v := 3) hx hb nd_Law_law_430 (by decide) ?_
    refine lv_iadd hx hb nd_Law_law_431 ?_
    refine k_sld (n := n) (j := 3) hx hb hX hbl hbA hS (k_sidx rfl) (by omega) hL nd_Law_law_432 ?_
    refine lv_aload_n hx hb nd_Law_law_433 rfl (lv_at hl 5 rfl) ?_
    refine lv_iload hx hb nd_Law_law_434 (lv_at hl 1 rfl) ?_
    refine lv_iconst (v := 4) hx hb nd_Law_law_436 (by decide) ?_
    refine lv_iadd hx hb nd_Law_law_437 ?_
    refine k_sld (n := n) (j := 4) hx hb hX hbl hbA hS (k_sidx rfl) (by omega) hL nd_Law_law_438 ?_
    refine k_uVV (w2 := wA qc qm qo ca I J A L (va_up i 0 S0) (va_up (va_up (va_up (va_up a 4 S1) 5 S2) 6 S3) 7 S4) (va_up l9 0 S5) o) (As := [.int (xs (n + 1)), .int (xs (n + 2)), .int (xs (n + 3)), .int (xs (n + 4))]) (rest := []) hx hb hml hown hts (cn_Model_machine l D ca (qm 0) (qm 1) (qm 2) (qm 3) (qm 4) (qm 5) (qm 6) (qm 7) (qm 8) (qm 9) (qm 10) (qm 11) (qm 12) (qm 13) (qm 14) (qm 15) (qm 16) (qm 17) (qm 18) (qm 19) (qm 20) (qm 21) (qm 22) (qm 23) (qm 24) (i 0) (i 1) (i 2) (i 3) (i 4) (i 5) (i 6) (i 7) (a 4) (a 5) (a 6) (a 7) (l9 0) (xs (n + 1)) (xs (n + 2)) (xs (n + 3)) (xs (n + 4)) S0 S1 S2 S3 S4 S5 e2 _) kc_Model_machine kv_Model_machine tt_849 ⟨by decide, by decide⟩ rfl rfl hP hK hD hS hA [63, 72, 73, 74, 75, 64] rfl (by decide +kernel) rfl rfl 0 rfl rfl rfl rfl hl.1 (Nat.le_of_ble_eq_true rfl) rfl nd_Law_law_439 ⟨by show _ ≤ 601024; omega, by show _ ≤ 7293034; omega⟩ (fun H locs hP hD hS => ?_)
    refine lv_aload_n hx hb nd_Law_law_442 rfl (lv_at hl 3 rfl) ?_
    refine k_rVI (As := []) (rest := []) (r := S0) hx hb hml hown hts (cn_Model_thrown l D ca (qm 0) (qm 1) (qm 2) (qm 3) (qm 4) (qm 5) (qm 6) (qm 7) (qm 8) (qm 9) (qm 10) (qm 11) (qm 12) (qm 13) (qm 14) (qm 15) (qm 16) (qm 17) (qm 18) (qm 19) (qm 20) (qm 21) (qm 22) (qm 23) (qm 24) ((va_up i 0 S0) 0) ((va_up i 0 S0) 1) ((va_up i 0 S0) 2) ((va_up i 0 S0) 3) ((va_up i 0 S0) 4) ((va_up i 0 S0) 5) ((va_up i 0 S0) 6) ((va_up i 0 S0) 7) S0 rfl) kc_Model_thrown kv_Model_thrown tt_820 ⟨by decide, by decide⟩ rfl rfl hP hK [63] rfl 0 rfl rfl rfl rfl hl.1 (Nat.le_of_ble_eq_true rfl) rfl nd_Law_law_443 ⟨by show _ ≤ 601024; omega, by show _ ≤ 7293034; omega⟩ ?_
    refine lv_iload hx hb nd_Law_law_446 (lv_at hl 0 rfl) ?_
    refine lv_icmp_eq (tgt := 453) hx hb nd_Law_law_448 (by decide) (fun c2 => ?_) (fun c2 => ?_)
    rotate_left
    · exact absurd et c2
    refine lv_goto (tgt := 1452) hx hb nd_Law_law_453 (by decide) ?_
    refine W.widen (k := 400 + n + 1) (n := 20000 + 6 * n + 6) (by omega) (by omega) ?_
    exact hnext _ _ _ _ _ _ _ _ _ _ _ hRel hP hD hS (lv_sub hl [1, 2, 3, 4, 5] rfl)
  ·
    refine lv_aload_n hx hb nd_Law_law_384 rfl (lv_at hl 3 rfl) ?_
    refine lv_aload_n hx hb nd_Law_law_385 rfl (lv_at hl 4 rfl) ?_
    refine lv_iload hx hb nd_Law_law_386 (lv_at hl 0 rfl) ?_
    refine lv_iconst (v := 1) hx hb nd_Law_law_388 (by decide) ?_
    refine lv_iadd hx hb nd_Law_law_389 ?_
    refine k_sld (n := n) (j := 1) hx hb hX hbl hbA hS (k_sidx rfl) (by omega) hL nd_Law_law_390 ?_
    refine lv_aload_n hx hb nd_Law_law_391 rfl (lv_at hl 4 rfl) ?_
    refine lv_iload hx hb nd_Law_law_392 (lv_at hl 0 rfl) ?_
    refine lv_iconst (v := 2) hx hb nd_Law_law_394 (by decide) ?_
    refine lv_iadd hx hb nd_Law_law_395 ?_
    refine k_sld (n := n) (j := 2) hx hb hX hbl hbA hS (k_sidx rfl) (by omega) hL nd_Law_law_396 ?_
    refine lv_aload_n hx hb nd_Law_law_397 rfl (lv_at hl 4 rfl) ?_
    refine lv_iload hx hb nd_Law_law_398 (lv_at hl 0 rfl) ?_
    refine lv_iconst (v := 3) hx hb nd_Law_law_400 (by decide) ?_
    refine lv_iadd hx hb nd_Law_law_401 ?_
    refine k_sld (n := n) (j := 3) hx hb hX hbl hbA hS (k_sidx rfl) (by omega) hL nd_Law_law_402 ?_
    refine lv_aload_n hx hb nd_Law_law_403 rfl (lv_at hl 4 rfl) ?_
    refine lv_iload hx hb nd_Law_law_404 (lv_at hl 0 rfl) ?_
    refine lv_iconst (v := 4) hx hb nd_Law_law_406 (by decide) ?_
    refine lv_iadd hx hb nd_Law_law_407 ?_
    refine k_sld (n := n) (j := 4) hx hb hX hbl hbA hS (k_sidx rfl) (by omega) hL nd_Law_law_408 ?_
    refine k_uSWX (w2 := wA qc qm qo ca I J A L i a l9 o) (As := [.ref (qc 0), .int (xs (n + 1)), .int (xs (n + 2)), .int (xs (n + 3)), .int (xs (n + 4))]) (rest := []) (r := 2) hx hb hml hown hts (hx_Law_machine_3 l hlt D ca (qc 0) (qc 1) (qc 19) (qc 34) (qc 47) (qc 48) (qc 58) (qc 2) (qc 5) (qc 9) (qc 13) (qc 14) (qc 15) (qc 16) (qc 17) (qc 18) (I 0) (A 4) (A 5) (A 6) (A 7) (A 8) (xs (n + 1)) (xs (n + 2)) (xs (n + 3)) (xs (n + 4)) e1 _) kc_Law_machine ks_Law_machine tt_408 ⟨by decide, by decide⟩ rfl rfl hP hK hD hS hA hev [0, 1, 13, 14, 15, 16, 17, 18] rfl (by decide +kernel) rfl rfl rfl hl.1 (Nat.le_of_ble_eq_true rfl) rfl nd_Law_law_409 ⟨by show _ ≤ 601024; omega, by show _ ≤ 7293034; omega⟩ (fun H locs hP hD hS => ?_)
    refine W.widen (k := 400 + n + 1) (n := 20000 + 6 * n + 6) (by omega) (by omega) ?_
    refine lv_istore (lv' := [(5, .int 2), (4, .int (nI n)), (3, .ref qo), (2, .ref (qm 0)), (1, .ref (qc 0)), (0, .ref b)]) hx hb nd_Law_law_412 hl (by decide) rfl (fun ls hl => ?_)
    refine lv_aload_n hx hb nd_Law_law_414 rfl (lv_at hl 3 rfl) ?_
    refine lv_aload_n hx hb nd_Law_law_415 rfl (lv_at hl 5 rfl) ?_
    refine lv_iload hx hb nd_Law_law_416 (lv_at hl 1 rfl) ?_
    refine lv_iconst (v := 1) hx hb nd_Law_law_418 (by decide) ?_
    refine lv_iadd hx hb nd_Law_law_419 ?_
    refine k_sld (n := n) (j := 1) hx hb hX hbl hbA hS (k_sidx rfl) (by omega) hL nd_Law_law_420 ?_
    refine lv_aload_n hx hb nd_Law_law_421 rfl (lv_at hl 5 rfl) ?_
    refine lv_iload hx hb nd_Law_law_422 (lv_at hl 1 rfl) ?_
    refine lv_iconst (v := 2) hx hb nd_Law_law_424 (by decide) ?_
    refine lv_iadd hx hb nd_Law_law_425 ?_
    refine k_sld (n := n) (j := 2) hx hb hX hbl hbA hS (k_sidx rfl) (by omega) hL nd_Law_law_426 ?_
    refine lv_aload_n hx hb nd_Law_law_427 rfl (lv_at hl 5 rfl) ?_
    refine lv_iload hx hb nd_Law_law_428 (lv_at hl 1 rfl) ?_
    refine lv_iconst (v := 3) hx hb nd_Law_law_430 (by decide) ?_
    refine lv_iadd hx hb nd_Law_law_431 ?_
    refine k_sld (n := n) (j := 3) hx hb hX hbl hbA hS (k_sidx rfl) (by omega) hL nd_Law_law_432 ?_
    refine lv_aload_n hx hb nd_Law_law_433 rfl (lv_at hl 5 rfl) ?_
    refine lv_iload hx hb nd_Law_law_434 (lv_at hl 1 rfl) ?_
    refine lv_iconst (v := 4) hx hb nd_Law_law_436 (by decide) ?_
    refine lv_iadd hx hb nd_Law_law_437 ?_
    refine k_sld (n := n) (j := 4) hx hb hX hbl hbA hS (k_sidx rfl) (by omega) hL nd_Law_law_438 ?_
    refine k_uVV (w2 := wA qc qm qo ca I J A L (va_up i 0 S0) (va_up (va_up (va_up (va_up a 4 S1) 5 S2) 6 S3) 7 S4) (va_up l9 0 S5) o) (As := [.int (xs (n + 1)), .int (xs (n + 2)), .int (xs (n + 3)), .int (xs (n + 4))]) (rest := []) hx hb hml hown hts (cn_Model_machine l D ca (qm 0) (qm 1) (qm 2) (qm 3) (qm 4) (qm 5) (qm 6) (qm 7) (qm 8) (qm 9) (qm 10) (qm 11) (qm 12) (qm 13) (qm 14) (qm 15) (qm 16) (qm 17) (qm 18) (qm 19) (qm 20) (qm 21) (qm 22) (qm 23) (qm 24) (i 0) (i 1) (i 2) (i 3) (i 4) (i 5) (i 6) (i 7) (a 4) (a 5) (a 6) (a 7) (l9 0) (xs (n + 1)) (xs (n + 2)) (xs (n + 3)) (xs (n + 4)) S0 S1 S2 S3 S4 S5 e2 _) kc_Model_machine kv_Model_machine tt_849 ⟨by decide, by decide⟩ rfl rfl hP hK hD hS hA [63, 72, 73, 74, 75, 64] rfl (by decide +kernel) rfl rfl 0 rfl rfl rfl rfl hl.1 (Nat.le_of_ble_eq_true rfl) rfl nd_Law_law_439 ⟨by show _ ≤ 601024; omega, by show _ ≤ 7293034; omega⟩ (fun H locs hP hD hS => ?_)
    refine lv_aload_n hx hb nd_Law_law_442 rfl (lv_at hl 3 rfl) ?_
    refine k_rVI (As := []) (rest := []) (r := S0) hx hb hml hown hts (cn_Model_thrown l D ca (qm 0) (qm 1) (qm 2) (qm 3) (qm 4) (qm 5) (qm 6) (qm 7) (qm 8) (qm 9) (qm 10) (qm 11) (qm 12) (qm 13) (qm 14) (qm 15) (qm 16) (qm 17) (qm 18) (qm 19) (qm 20) (qm 21) (qm 22) (qm 23) (qm 24) ((va_up i 0 S0) 0) ((va_up i 0 S0) 1) ((va_up i 0 S0) 2) ((va_up i 0 S0) 3) ((va_up i 0 S0) 4) ((va_up i 0 S0) 5) ((va_up i 0 S0) 6) ((va_up i 0 S0) 7) S0 rfl) kc_Model_thrown kv_Model_thrown tt_820 ⟨by decide, by decide⟩ rfl rfl hP hK [63] rfl 0 rfl rfl rfl rfl hl.1 (Nat.le_of_ble_eq_true rfl) rfl nd_Law_law_443 ⟨by show _ ≤ 601024; omega, by show _ ≤ 7293034; omega⟩ ?_
    refine lv_iload hx hb nd_Law_law_446 (lv_at hl 0 rfl) ?_
    refine lv_icmp_eq (tgt := 453) hx hb nd_Law_law_448 (by decide) (fun c3 => ?_) (fun c3 => ?_)
    rotate_left
    · exact absurd et c3
    refine lv_goto (tgt := 1452) hx hb nd_Law_law_453 (by decide) ?_
    refine W.widen (k := 400 + n + 1) (n := 20000 + 6 * n + 6) (by omega) (by omega) ?_
    exact hnext _ _ _ _ _ _ _ _ _ _ _ hRel hP hD hS (lv_sub hl [1, 2, 3, 4, 5] rfl)
set_option maxHeartbeats 8000000 in
set_option maxRecDepth 100000 in
theorem lc_degrees {p : Program} {l : Launch} {e : Env} {s : State} {m : MethodId} {below : List Frame} {meth : Method} {c : Code} {D : va_G} {ca : Nat → ClassId} {b Ls : Nat} {xs : Nat → Int32} (C0 : lw_At p s m meth c b Ls xs) (hL : Ls ≤ 2560) (hlt : l.stackTraces = false) (hev0 : xt_ev s s.heap) (hK : va_K D vwCl (tyG ca) s) {Rel : (Nat → Int32) → (Nat → Int64) → (Nat → Nat → Int32) → (Nat → Nat → Int64) → (Nat → Int32) → (Nat → Nat → Int32) → (Nat → Nat → Int64) → Prop} {qc qm : Nat → Nat} {qo : Nat} {I : Nat → Int32} {J : Nat → Int64} {A : Nat → Nat → Int32} {L : Nat → Nat → Int64} {i : Nat → Int32} {a : Nat → Nat → Int32} {l9 : Nat → Nat → Int64} {o : Nat → Int64} {n : Nat} (hn : n + 5 ≤ Ls) {H : Heap} {locs : List Loc} {ls : Array Slot} (hP : va_P D vwCl (wA qc qm qo ca I J A L i a l9 o) H) (hD : va_D (fun q : Nat => s.heap.size ≤ q) (wA qc qm qo ca I J A L i a l9 o)) (hS : va_S (fun q : Nat => s.heap.size ≤ q) s.heap H locs) (hl : lv_has ls 8 [(4, .int (nI n)), (3, .ref qo), (2, .ref (qm 0)), (1, .ref (qc 0)), (0, .ref b)]) (hst : st_degrees Rel I J A L i a l9 o ) (hnext : ∀ (I : Nat → Int32) (J : Nat → Int64) (A : Nat → Nat → Int32) (L : Nat → Nat → Int64) (i : Nat → Int32) (a : Nat → Nat → Int32) (l9 : Nat → Nat → Int64) (o : Nat → Int64) (H : Heap) (locs : List Loc) (ls : Array Slot), Rel I J A L i a l9 → va_P D vwCl (wA qc qm qo ca I J A L i a l9 o) H → va_D (fun q : Nat => s.heap.size ≤ q) (wA qc qm qo ca I J A L i a l9 o) → va_S (fun q : Nat => s.heap.size ≤ q) s.heap H locs → lv_has ls 8 [(4, .int (nI n)), (3, .ref qo), (2, .ref (qm 0)), (1, .ref (qc 0)), (0, .ref b)] → W p l e room_1 s m #[Value.ref b] below meth c H locs (400 + n + 1) (20000 + 6 * n + 6) (lw_Z below #[Value.ref b] s) (F0 m 1452 ls [])) : W p l e room_1 s m #[Value.ref b] below meth c H locs (400 + n) (20000 + 6 * n) (lw_Z below #[Value.ref b] s) (F0 m 536 ls []) := by
  obtain ⟨hx, hb, hr, hml, hown, hts0, hX, hbl, hlocks, hgv⟩ := C0
  have hts : ∀ w ∈ TT, w.before #[Value.ref b] s = true := fun w h => hts0 w (List.mem_filter.mp h).1
  have hA : ∀ q : Nat, s.heap.size ≤ q → (fun q : Nat => s.heap.size ≤ q) q := fun _ h => h
  have hbA : ¬ (fun q : Nat => s.heap.size ≤ q) b := Nat.not_le.mpr hbl
  have hown : s.vm.findClass nR_Law = some m.cls := hown
  have hev : xt_ev s H := k_evH hev0 hS
  unfold st_degrees at hst
  obtain ⟨R0, S0, S1, e1, e2, et, hRel⟩ := hst
  refine lv_aload_n hx hb nd_Law_law_536 rfl (lv_at hl 3 rfl) ?_
  refine k_rVI (As := []) (rest := []) (r := R0) hx hb hml hown hts (cn_Room_degrees l D ca (qc 0) (qc 1) (qc 19) (qc 34) (qc 47) (qc 48) (qc 58) (qc 2) (qc 5) (qc 9) (qc 13) (qc 3) (qc 4) (I 0) (I 1) (I 2) (J 0) (J 1) R0 e1) kc_Room_degrees kv_Room_degrees tt_244 ⟨by decide, by decide⟩ rfl rfl hP hK [0, 1, 2] rfl 0 rfl rfl rfl rfl hl.1 (Nat.le_of_ble_eq_true rfl) rfl nd_Law_law_537 ⟨by show _ ≤ 601024; omega, by show _ ≤ 7293034; omega⟩ ?_
  refine lv_aload_n hx hb nd_Law_law_540 rfl (lv_at hl 2 rfl) ?_
  refine k_uVI (w2 := wA qc qm qo ca I J A L (va_up i 0 S1) a l9 o) (As := []) (rest := [.int R0]) (r := S0) hx hb hml hown hts (cn_Model_degrees l D ca (qm 0) (qm 1) (qm 2) (qm 3) (qm 4) (qm 5) (qm 6) (qm 7) (qm 8) (qm 9) (qm 10) (qm 11) (qm 12) (qm 13) (qm 14) (qm 15) (qm 16) (qm 17) (qm 18) (qm 19) (qm 20) (qm 21) (qm 22) (qm 23) (qm 24) (i 0) (i 1) (i 2) (i 3) (i 4) (i 5) (i 6) (i 7) (l9 0) S0 S1 e2 _) kc_Model_degrees kv_Model_degrees tt_920 ⟨by decide, by decide⟩ rfl rfl hP hK hD hS hA [63, 64] rfl (by decide +kernel) rfl rfl 0 rfl rfl rfl rfl hl.1 (Nat.le_of_ble_eq_true rfl) rfl nd_Law_law_541 ⟨by show _ ≤ 601024; omega, by show _ ≤ 7293034; omega⟩ (fun H locs hP hD hS => ?_)
  refine lv_icmp_eq (tgt := 1452) hx hb nd_Law_law_544 (by decide) (fun c1 => ?_) (fun c1 => ?_)
  rotate_left
  · exact absurd et c1
  refine W.widen (k := 400 + n + 1) (n := 20000 + 6 * n + 6) (by omega) (by omega) ?_
  exact hnext _ _ _ _ _ _ _ _ _ _ _ hRel hP hD hS (lv_sub hl [0, 1, 2, 3, 4] rfl)
set_option maxHeartbeats 8000000 in
set_option maxRecDepth 100000 in
theorem lc_damp {p : Program} {l : Launch} {e : Env} {s : State} {m : MethodId} {below : List Frame} {meth : Method} {c : Code} {D : va_G} {ca : Nat → ClassId} {b Ls : Nat} {xs : Nat → Int32} (C0 : lw_At p s m meth c b Ls xs) (hL : Ls ≤ 2560) (hlt : l.stackTraces = false) (hev0 : xt_ev s s.heap) (hK : va_K D vwCl (tyG ca) s) {Rel : (Nat → Int32) → (Nat → Int64) → (Nat → Nat → Int32) → (Nat → Nat → Int64) → (Nat → Int32) → (Nat → Nat → Int32) → (Nat → Nat → Int64) → Prop} {qc qm : Nat → Nat} {qo : Nat} {I : Nat → Int32} {J : Nat → Int64} {A : Nat → Nat → Int32} {L : Nat → Nat → Int64} {i : Nat → Int32} {a : Nat → Nat → Int32} {l9 : Nat → Nat → Int64} {o : Nat → Int64} {n : Nat} (hn : n + 5 ≤ Ls) {H : Heap} {locs : List Loc} {ls : Array Slot} (hP : va_P D vwCl (wA qc qm qo ca I J A L i a l9 o) H) (hD : va_D (fun q : Nat => s.heap.size ≤ q) (wA qc qm qo ca I J A L i a l9 o)) (hS : va_S (fun q : Nat => s.heap.size ≤ q) s.heap H locs) (hl : lv_has ls 8 [(4, .int (nI n)), (3, .ref qo), (2, .ref (qm 0)), (1, .ref (qc 0)), (0, .ref b)]) (hst : st_damp Rel I J A L i a l9 o ) (hnext : ∀ (I : Nat → Int32) (J : Nat → Int64) (A : Nat → Nat → Int32) (L : Nat → Nat → Int64) (i : Nat → Int32) (a : Nat → Nat → Int32) (l9 : Nat → Nat → Int64) (o : Nat → Int64) (H : Heap) (locs : List Loc) (ls : Array Slot), Rel I J A L i a l9 → va_P D vwCl (wA qc qm qo ca I J A L i a l9 o) H → va_D (fun q : Nat => s.heap.size ≤ q) (wA qc qm qo ca I J A L i a l9 o) → va_S (fun q : Nat => s.heap.size ≤ q) s.heap H locs → lv_has ls 8 [(4, .int (nI n)), (3, .ref qo), (2, .ref (qm 0)), (1, .ref (qc 0)), (0, .ref b)] → W p l e room_1 s m #[Value.ref b] below meth c H locs (400 + n + 1) (20000 + 6 * n + 6) (lw_Z below #[Value.ref b] s) (F0 m 1452 ls [])) : W p l e room_1 s m #[Value.ref b] below meth c H locs (400 + n) (20000 + 6 * n) (lw_Z below #[Value.ref b] s) (F0 m 549 ls []) := by
  obtain ⟨hx, hb, hr, hml, hown, hts0, hX, hbl, hlocks, hgv⟩ := C0
  have hts : ∀ w ∈ TT, w.before #[Value.ref b] s = true := fun w h => hts0 w (List.mem_filter.mp h).1
  have hA : ∀ q : Nat, s.heap.size ≤ q → (fun q : Nat => s.heap.size ≤ q) q := fun _ h => h
  have hbA : ¬ (fun q : Nat => s.heap.size ≤ q) b := Nat.not_le.mpr hbl
  have hown : s.vm.findClass nR_Law = some m.cls := hown
  have hev : xt_ev s H := k_evH hev0 hS
  unfold st_damp at hst
  obtain ⟨R0, S0, S1, e1, e2, et, hRel⟩ := hst
  refine lv_aload_n hx hb nd_Law_law_549 rfl (lv_at hl 3 rfl) ?_
  refine k_rVI (As := []) (rest := []) (r := R0) hx hb hml hown hts (cn_Room_damp l D ca (qc 0) (qc 1) (qc 19) (qc 34) (qc 47) (qc 48) (qc 58) (qc 2) (qc 5) (qc 9) (qc 13) (qc 3) (qc 4) (I 0) (I 1) (I 2) (J 0) (J 1) R0 e1) kc_Room_damp kv_Room_damp tt_258 ⟨by decide, by decide⟩ rfl rfl hP hK [0, 1, 2] rfl 0 rfl rfl rfl rfl hl.1 (Nat.le_of_ble_eq_true rfl) rfl nd_Law_law_550 ⟨by show _ ≤ 601024; omega, by show _ ≤ 7293034; omega⟩ ?_
  refine lv_aload_n hx hb nd_Law_law_553 rfl (lv_at hl 2 rfl) ?_
  refine k_uVI (w2 := wA qc qm qo ca I J A L (va_up i 0 S1) a l9 o) (As := []) (rest := [.int R0]) (r := S0) hx hb hml hown hts (cn_Model_damp l D ca (qm 0) (qm 1) (qm 2) (qm 3) (qm 4) (qm 5) (qm 6) (qm 7) (qm 8) (qm 9) (qm 10) (qm 11) (qm 12) (qm 13) (qm 14) (qm 15) (qm 16) (qm 17) (qm 18) (qm 19) (qm 20) (qm 21) (qm 22) (qm 23) (qm 24) (i 0) (i 1) (i 2) (i 3) (i 4) (i 5) (i 6) (i 7) (l9 0) S0 S1 e2 _) kc_Model_damp kv_Model_damp tt_924 ⟨by decide, by decide⟩ rfl rfl hP hK hD hS hA [63, 64] rfl (by decide +kernel) rfl rfl 0 rfl rfl rfl rfl hl.1 (Nat.le_of_ble_eq_true rfl) rfl nd_Law_law_554 ⟨by show _ ≤ 601024; omega, by show _ ≤ 7293034; omega⟩ (fun H locs hP hD hS => ?_)
  refine lv_icmp_eq (tgt := 1452) hx hb nd_Law_law_557 (by decide) (fun c1 => ?_) (fun c1 => ?_)
  rotate_left
  · exact absurd et c1
  refine W.widen (k := 400 + n + 1) (n := 20000 + 6 * n + 6) (by omega) (by omega) ?_
  exact hnext _ _ _ _ _ _ _ _ _ _ _ hRel hP hD hS (lv_sub hl [0, 1, 2, 3, 4] rfl)
