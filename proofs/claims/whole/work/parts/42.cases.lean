set_option maxHeartbeats 8000000 in
set_option maxRecDepth 100000 in
theorem lc_points {p : Program} {l : Launch} {e : Env} {s : State} {m : MethodId} {below : List Frame} {meth : Method} {c : Code} {D : va_G} {ca : Nat → ClassId} {b Ls : Nat} {xs : Nat → Int32} (C0 : lw_At p s m meth c b Ls xs) (hL : Ls ≤ 2560) (hlt : l.stackTraces = false) (hev0 : xt_ev s s.heap) (hK : va_K D vwCl (tyG ca) s) {Rel : (Nat → Int32) → (Nat → Int64) → (Nat → Nat → Int32) → (Nat → Nat → Int64) → (Nat → Int32) → (Nat → Nat → Int32) → (Nat → Nat → Int64) → Prop} {qc qm : Nat → Nat} {qo : Nat} {I : Nat → Int32} {J : Nat → Int64} {A : Nat → Nat → Int32} {L : Nat → Nat → Int64} {i : Nat → Int32} {a : Nat → Nat → Int32} {l9 : Nat → Nat → Int64} {o : Nat → Int64} {n : Nat} (hn : n + 5 ≤ Ls) {H : Heap} {locs : List Loc} {ls : Array Slot} (hP : va_P D vwCl (wA qc qm qo ca I J A L i a l9 o) H) (hD : va_D (fun q : Nat => s.heap.size ≤ q) (wA qc qm qo ca I J A L i a l9 o)) (hS : va_S (fun q : Nat => s.heap.size ≤ q) s.heap H locs) (hl : lv_has ls 8 [(4, .int (nI n)), (3, .ref qo), (2, .ref (qm 0)), (1, .ref (qc 0)), (0, .ref b)]) (hst : st_points Rel I J A L i a l9 o (xs (n + 1))) (hnext : ∀ (I : Nat → Int32) (J : Nat → Int64) (A : Nat → Nat → Int32) (L : Nat → Nat → Int64) (i : Nat → Int32) (a : Nat → Nat → Int32) (l9 : Nat → Nat → Int64) (o : Nat → Int64) (H : Heap) (locs : List Loc) (ls : Array Slot), Rel I J A L i a l9 → va_P D vwCl (wA qc qm qo ca I J A L i a l9 o) H → va_D (fun q : Nat => s.heap.size ≤ q) (wA qc qm qo ca I J A L i a l9 o) → va_S (fun q : Nat => s.heap.size ≤ q) s.heap H locs → lv_has ls 8 [(4, .int (nI n)), (3, .ref qo), (2, .ref (qm 0)), (1, .ref (qc 0)), (0, .ref b)] → W p l e room_1 s m #[Value.ref b] below meth c H locs (400 + n + 1) (20000 + 6 * n + 6) (lw_Z below #[Value.ref b] s) (F0 m 1452 ls [])) : W p l e room_1 s m #[Value.ref b] below meth c H locs (400 + n) (20000 + 6 * n) (lw_Z below #[Value.ref b] s) (F0 m 904 ls []) := by
  obtain ⟨hx, hb, hr, hml, hown, hts0, hX, hbl, hlocks, hgv⟩ := C0
  have hts : ∀ w ∈ TT, w.before #[Value.ref b] s = true := fun w h => hts0 w (List.mem_filter.mp h).1
  have hA : ∀ q : Nat, s.heap.size ≤ q → (fun q : Nat => s.heap.size ≤ q) q := fun _ h => h
  have hbA : ¬ (fun q : Nat => s.heap.size ≤ q) b := Nat.not_le.mpr hbl
  have hown : s.vm.findClass nR_Law = some m.cls := hown
  have hev : xt_ev s H := k_evH hev0 hS
  unfold st_points at hst
  rcases hst with ⟨R1, S0, S1, e1, e2, et, ea, hRel⟩ | ⟨S0, S1, e1, e2, et, hRel⟩
  ·
    refine lv_aload_n hx hb nd_Law_law_904 rfl (lv_at hl 3 rfl) ?_
    refine lv_aload_n hx hb nd_Law_law_905 rfl (lv_at hl 4 rfl) ?_
    refine lv_iload hx hb nd_Law_law_906 (lv_at hl 0 rfl) ?_
    refine lv_iconst (v := 1) hx hb nd_Law_law_908 (by decide) ?_
    refine lv_iadd hx hb nd_Law_law_909 ?_
    refine k_sld (n := n) (j := 1) hx hb hX hbl hbA hS (k_sidx rfl) (by omega) hL nd_Law_law_910 ?_
    refine lv_aload_n hx hb nd_Law_law_911 rfl (lv_at hl 1 rfl) ?_
    refine k_uSWI (w2 := wA qc qm qo ca I J A L i a l9 R1) (As := [.ref (qc 0), .int (xs (n + 1)), .ref qo]) (rest := []) (r := 0) hx hb hml hown hts (cn_Law_points l D ca (qc 0) (qc 1) (qc 19) (qc 34) (qc 47) (qc 48) (qc 58) qo (I 0) (A 24) o (xs (n + 1)) (0 : Int32) R1 e1 _) kc_Law_points ks_Law_points tt_578 ⟨by decide, by decide⟩ rfl rfl hP hK hD hS hA [0, 47, 88] rfl (by decide +kernel) rfl rfl rfl hl.1 (Nat.le_of_ble_eq_true rfl) rfl nd_Law_law_912 ⟨by show _ ≤ 601024; omega, by show _ ≤ 7293034; omega⟩ (fun H locs hP hD hS => ?_)
    refine W.widen (k := 400 + n) (n := 20000 + 6 * n) (by omega) (by omega) ?_
    refine lv_istore (lv' := [(5, .int 0), (4, .int (nI n)), (3, .ref qo), (2, .ref (qm 0)), (1, .ref (qc 0)), (0, .ref b)]) hx hb nd_Law_law_915 hl (by decide) rfl (fun ls hl => ?_)
    refine lv_aload_n hx hb nd_Law_law_917 rfl (lv_at hl 3 rfl) ?_
    refine lv_aload_n hx hb nd_Law_law_918 rfl (lv_at hl 5 rfl) ?_
    refine lv_iload hx hb nd_Law_law_919 (lv_at hl 1 rfl) ?_
    refine lv_iconst (v := 1) hx hb nd_Law_law_921 (by decide) ?_
    refine lv_iadd hx hb nd_Law_law_922 ?_
    refine k_sld (n := n) (j := 1) hx hb hX hbl hbA hS (k_sidx rfl) (by omega) hL nd_Law_law_923 ?_
    refine k_uVI (w2 := wA qc qm qo ca I J A L (va_up i 0 S1) a l9 R1) (As := [.int (xs (n + 1))]) (rest := []) (r := S0) hx hb hml hown hts (cn_Model_points l D ca (qm 0) (qm 1) (qm 2) (qm 3) (qm 4) (qm 5) (qm 6) (qm 7) (qm 8) (qm 9) (qm 10) (qm 11) (qm 12) (qm 13) (qm 14) (qm 15) (qm 16) (qm 17) (qm 18) (qm 19) (qm 20) (qm 21) (qm 22) (qm 23) (qm 24) (i 0) (i 1) (i 2) (i 3) (i 4) (i 5) (i 6) (i 7) (a 11) (xs (n + 1)) S0 S1 e2 _) kc_Model_points kv_Model_points tt_956 ⟨by decide, by decide⟩ rfl rfl hP hK hD hS hA [63, 79] rfl (by decide +kernel) rfl rfl 0 rfl rfl rfl rfl hl.1 (Nat.le_of_ble_eq_true rfl) rfl nd_Law_law_924 ⟨by show _ ≤ 601024; omega, by show _ ≤ 7293034; omega⟩ (fun H locs hP hD hS => ?_)
    refine lv_istore (lv' := [(6, .int S0), (5, .int 0), (4, .int (nI n)), (3, .ref qo), (2, .ref (qm 0)), (1, .ref (qc 0)), (0, .ref b)]) hx hb nd_Law_law_927 hl (by decide) rfl (fun ls hl => ?_)
    refine lv_aload_n hx hb nd_Law_law_929 rfl (lv_at hl 4 rfl) ?_
    refine k_rVI (As := []) (rest := []) (r := S1) hx hb hml hown hts (cn_Model_thrown l D ca (qm 0) (qm 1) (qm 2) (qm 3) (qm 4) (qm 5) (qm 6) (qm 7) (qm 8) (qm 9) (qm 10) (qm 11) (qm 12) (qm 13) (qm 14) (qm 15) (qm 16) (qm 17) (qm 18) (qm 19) (qm 20) (qm 21) (qm 22) (qm 23) (qm 24) ((va_up i 0 S1) 0) ((va_up i 0 S1) 1) ((va_up i 0 S1) 2) ((va_up i 0 S1) 3) ((va_up i 0 S1) 4) ((va_up i 0 S1) 5) ((va_up i 0 S1) 6) ((va_up i 0 S1) 7) S1 rfl) kc_Model_thrown kv_Model_thrown tt_820 ⟨by decide, by decide⟩ rfl rfl hP hK [63] rfl 0 rfl rfl rfl rfl hl.1 (Nat.le_of_ble_eq_true rfl) rfl nd_Law_law_930 ⟨by show _ ≤ 601024; omega, by show _ ≤ 7293034; omega⟩ ?_
    refine lv_iload hx hb nd_Law_law_933 (lv_at hl 1 rfl) ?_
    refine lv_icmp_eq (tgt := 940) hx hb nd_Law_law_935 (by decide) (fun c1 => ?_) (fun c1 => ?_)
    rotate_left
    · exact absurd et c1
    refine lv_iload hx hb nd_Law_law_940 (lv_at hl 1 rfl) ?_
    refine lv_if_ne (tgt := 957) hx hb nd_Law_law_942 (by decide) (fun c2 => ?_) (fun c2 => ?_)
    · exact absurd rfl c2
    refine lv_aload_n hx hb nd_Law_law_945 rfl (lv_at hl 3 rfl) ?_
    refine lv_iconst (v := 0) hx hb nd_Law_law_946 (by decide) ?_
    refine va_lald hx hb hK hP 88 1 rfl rfl (by unfold vp_in; decide) nd_Law_law_947 ?_
    refine lv_iload hx hb nd_Law_law_948 (lv_at hl 0 rfl) ?_
    refine lv_i2l hx hb nd_Law_law_950 rfl ?_
    refine W.lcmp hx hb nd_Law_law_951 ?_
    refine lv_if_eq (tgt := 957) hx hb nd_Law_law_952 (by decide) (fun c3 => ?_) (fun c3 => ?_)
    rotate_left
    · exact absurd ea c3
    refine lv_goto (tgt := 1452) hx hb nd_Law_law_957 (by decide) ?_
    refine W.widen (k := 400 + n + 1) (n := 20000 + 6 * n + 6) (by omega) (by omega) ?_
    exact hnext _ _ _ _ _ _ _ _ _ _ _ hRel hP hD hS (lv_sub hl [2, 3, 4, 5, 6] rfl)
  ·
    refine lv_aload_n hx hb nd_Law_law_904 rfl (lv_at hl 3 rfl) ?_
    refine lv_aload_n hx hb nd_Law_law_905 rfl (lv_at hl 4 rfl) ?_
    refine lv_iload hx hb nd_Law_law_906 (lv_at hl 0 rfl) ?_
    refine lv_iconst (v := 1) hx hb nd_Law_law_908 (by decide) ?_
    refine lv_iadd hx hb nd_Law_law_909 ?_
    refine k_sld (n := n) (j := 1) hx hb hX hbl hbA hS (k_sidx rfl) (by omega) hL nd_Law_law_910 ?_
    refine lv_aload_n hx hb nd_Law_law_911 rfl (lv_at hl 1 rfl) ?_
    refine k_uSWX (w2 := wA qc qm qo ca I J A L i a l9 o) (As := [.ref (qc 0), .int (xs (n + 1)), .ref qo]) (rest := []) (r := 1) hx hb hml hown hts (hx_Law_points_1 l hlt D ca (qc 0) (qc 1) (qc 19) (qc 34) (qc 47) (qc 48) (qc 58) qo (I 0) (A 24) o (xs (n + 1)) e1 _) kc_Law_points ks_Law_points tt_578 ⟨by decide, by decide⟩ rfl rfl hP hK hD hS hA hev [0, 47, 88] rfl (by decide +kernel) rfl rfl rfl hl.1 (Nat.le_of_ble_eq_true rfl) rfl nd_Law_law_912 ⟨by show _ ≤ 601024; omega, by show _ ≤ 7293034; omega⟩ (fun H locs hP hD hS => ?_)
    refine W.widen (k := 400 + n + 1) (n := 20000 + 6 * n + 6) (by omega) (by omega) ?_
    refine lv_istore (lv' := [(5, .int 1), (4, .int (nI n)), (3, .ref qo), (2, .ref (qm 0)), (1, .ref (qc 0)), (0, .ref b)]) hx hb nd_Law_law_915 hl (by decide) rfl (fun ls hl => ?_)
    refine lv_aload_n hx hb nd_Law_law_917 rfl (lv_at hl 3 rfl) ?_
    refine lv_aload_n hx hb nd_Law_law_918 rfl (lv_at hl 5 rfl) ?_
    refine lv_iload hx hb nd_Law_law_919 (lv_at hl 1 rfl) ?_
    refine lv_iconst (v := 1) hx hb nd_Law_law_921 (by decide) ?_
    refine lv_iadd hx hb nd_Law_law_922 ?_
    refine k_sld (n := n) (j := 1) hx hb hX hbl hbA hS (k_sidx rfl) (by omega) hL nd_Law_law_923 ?_
    refine k_uVI (w2 := wA qc qm qo ca I J A L (va_up i 0 S1) a l9 o) (As := [.int (xs (n + 1))]) (rest := []) (r := S0) hx hb hml hown hts (cn_Model_points l D ca (qm 0) (qm 1) (qm 2) (qm 3) (qm 4) (qm 5) (qm 6) (qm 7) (qm 8) (qm 9) (qm 10) (qm 11) (qm 12) (qm 13) (qm 14) (qm 15) (qm 16) (qm 17) (qm 18) (qm 19) (qm 20) (qm 21) (qm 22) (qm 23) (qm 24) (i 0) (i 1) (i 2) (i 3) (i 4) (i 5) (i 6) (i 7) (a 11) (xs (n + 1)) S0 S1 e2 _) kc_Model_points kv_Model_points tt_956 ⟨by decide, by decide⟩ rfl rfl hP hK hD hS hA [63, 79] rfl (by decide +kernel) rfl rfl 0 rfl rfl rfl rfl hl.1 (Nat.le_of_ble_eq_true rfl) rfl nd_Law_law_924 ⟨by show _ ≤ 601024; omega, by show _ ≤ 7293034; omega⟩ (fun H locs hP hD hS => ?_)
    refine lv_istore (lv' := [(6, .int S0), (5, .int 1), (4, .int (nI n)), (3, .ref qo), (2, .ref (qm 0)), (1, .ref (qc 0)), (0, .ref b)]) hx hb nd_Law_law_927 hl (by decide) rfl (fun ls hl => ?_)
    refine lv_aload_n hx hb nd_Law_law_929 rfl (lv_at hl 4 rfl) ?_
    refine k_rVI (As := []) (rest := []) (r := S1) hx hb hml hown hts (cn_Model_thrown l D ca (qm 0) (qm 1) (qm 2) (qm 3) (qm 4) (qm 5) (qm 6) (qm 7) (qm 8) (qm 9) (qm 10) (qm 11) (qm 12) (qm 13) (qm 14) (qm 15) (qm 16) (qm 17) (qm 18) (qm 19) (qm 20) (qm 21) (qm 22) (qm 23) (qm 24) ((va_up i 0 S1) 0) ((va_up i 0 S1) 1) ((va_up i 0 S1) 2) ((va_up i 0 S1) 3) ((va_up i 0 S1) 4) ((va_up i 0 S1) 5) ((va_up i 0 S1) 6) ((va_up i 0 S1) 7) S1 rfl) kc_Model_thrown kv_Model_thrown tt_820 ⟨by decide, by decide⟩ rfl rfl hP hK [63] rfl 0 rfl rfl rfl rfl hl.1 (Nat.le_of_ble_eq_true rfl) rfl nd_Law_law_930 ⟨by show _ ≤ 601024; omega, by show _ ≤ 7293034; omega⟩ ?_
    refine lv_iload hx hb nd_Law_law_933 (lv_at hl 1 rfl) ?_
    refine lv_icmp_eq (tgt := 940) hx hb nd_Law_law_935 (by decide) (fun c4 => ?_) (fun c4 => ?_)
    rotate_left
    · exact absurd et c4
    refine lv_iload hx hb nd_Law_law_940 (lv_at hl 1 rfl) ?_
    refine lv_if_ne (tgt := 957) hx hb nd_Law_law_942 (by decide) (fun c5 => ?_) (fun c5 => ?_)
    rotate_left
    · exact absurd c5 (by decide)
    refine lv_goto (tgt := 1452) hx hb nd_Law_law_957 (by decide) ?_
    refine W.widen (k := 400 + n + 1) (n := 20000 + 6 * n + 6) (by omega) (by omega) ?_
    exact hnext _ _ _ _ _ _ _ _ _ _ _ hRel hP hD hS (lv_sub hl [2, 3, 4, 5, 6] rfl)
set_option maxHeartbeats 8000000 in
set_option maxRecDepth 100000 in
theorem lc_rule {p : Program} {l : Launch} {e : Env} {s : State} {m : MethodId} {below : List Frame} {meth : Method} {c : Code} {D : va_G} {ca : Nat → ClassId} {b Ls : Nat} {xs : Nat → Int32} (C0 : lw_At p s m meth c b Ls xs) (hL : Ls ≤ 2560) (hlt : l.stackTraces = false) (hev0 : xt_ev s s.heap) (hK : va_K D vwCl (tyG ca) s) {Rel : (Nat → Int32) → (Nat → Int64) → (Nat → Nat → Int32) → (Nat → Nat → Int64) → (Nat → Int32) → (Nat → Nat → Int32) → (Nat → Nat → Int64) → Prop} {qc qm : Nat → Nat} {qo : Nat} {I : Nat → Int32} {J : Nat → Int64} {A : Nat → Nat → Int32} {L : Nat → Nat → Int64} {i : Nat → Int32} {a : Nat → Nat → Int32} {l9 : Nat → Nat → Int64} {o : Nat → Int64} {n : Nat} (hn : n + 5 ≤ Ls) {H : Heap} {locs : List Loc} {ls : Array Slot} (hP : va_P D vwCl (wA qc qm qo ca I J A L i a l9 o) H) (hD : va_D (fun q : Nat => s.heap.size ≤ q) (wA qc qm qo ca I J A L i a l9 o)) (hS : va_S (fun q : Nat => s.heap.size ≤ q) s.heap H locs) (hl : lv_has ls 8 [(4, .int (nI n)), (3, .ref qo), (2, .ref (qm 0)), (1, .ref (qc 0)), (0, .ref b)]) (hst : st_rule Rel I J A L i a l9 o (xs (n + 1)) (xs (n + 2)) (xs (n + 3))) (hnext : ∀ (I : Nat → Int32) (J : Nat → Int64) (A : Nat → Nat → Int32) (L : Nat → Nat → Int64) (i : Nat → Int32) (a : Nat → Nat → Int32) (l9 : Nat → Nat → Int64) (o : Nat → Int64) (H : Heap) (locs : List Loc) (ls : Array Slot), Rel I J A L i a l9 → va_P D vwCl (wA qc qm qo ca I J A L i a l9 o) H → va_D (fun q : Nat => s.heap.size ≤ q) (wA qc qm qo ca I J A L i a l9 o) → va_S (fun q : Nat => s.heap.size ≤ q) s.heap H locs → lv_has ls 8 [(4, .int (nI n)), (3, .ref qo), (2, .ref (qm 0)), (1, .ref (qc 0)), (0, .ref b)] → W p l e room_1 s m #[Value.ref b] below meth c H locs (400 + n + 1) (20000 + 6 * n + 6) (lw_Z below #[Value.ref b] s) (F0 m 1452 ls [])) : W p l e room_1 s m #[Value.ref b] below meth c H locs (400 + n) (20000 + 6 * n) (lw_Z below #[Value.ref b] s) (F0 m 960 ls []) := by
  obtain ⟨hx, hb, hr, hml, hown, hts0, hX, hbl, hlocks, hgv⟩ := C0
  have hts : ∀ w ∈ TT, w.before #[Value.ref b] s = true := fun w h => hts0 w (List.mem_filter.mp h).1
  have hA : ∀ q : Nat, s.heap.size ≤ q → (fun q : Nat => s.heap.size ≤ q) q := fun _ h => h
  have hbA : ¬ (fun q : Nat => s.heap.size ≤ q) b := Nat.not_le.mpr hbl
  have hown : s.vm.findClass nR_Law = some m.cls := hown
  have hev : xt_ev s H := k_evH hev0 hS
  unfold st_rule at hst
  rcases hst with ⟨R1, R2, R3, R4, R5, S0, S1, S2, S3, S4, S5, e1, e2, et, ea, hRel⟩ | ⟨S0, S1, S2, S3, S4, S5, e1, e2, et, hRel⟩ | ⟨S0, S1, S2, S3, S4, S5, e1, e2, et, hRel⟩
  ·
    refine lv_aload_n hx hb nd_Law_law_960 rfl (lv_at hl 3 rfl) ?_
    refine lv_aload_n hx hb nd_Law_law_961 rfl (lv_at hl 4 rfl) ?_
    refine lv_iload hx hb nd_Law_law_962 (lv_at hl 0 rfl) ?_
    refine lv_iconst (v := 1) hx hb nd_Law_law_964 (by decide) ?_
    refine lv_iadd hx hb nd_Law_law_965 ?_
    refine k_sld (n := n) (j := 1) hx hb hX hbl hbA hS (k_sidx rfl) (by omega) hL nd_Law_law_966 ?_
    refine lv_aload_n hx hb nd_Law_law_967 rfl (lv_at hl 4 rfl) ?_
    refine lv_iload hx hb nd_Law_law_968 (lv_at hl 0 rfl) ?_
    refine lv_iconst (v := 2) hx hb nd_Law_law_970 (by decide) ?_
    refine lv_iadd hx hb nd_Law_law_971 ?_
    refine k_sld (n := n) (j := 2) hx hb hX hbl hbA hS (k_sidx rfl) (by omega) hL nd_Law_law_972 ?_
    refine lv_aload_n hx hb nd_Law_law_973 rfl (lv_at hl 4 rfl) ?_
    refine lv_iload hx hb nd_Law_law_974 (lv_at hl 0 rfl) ?_
    refine lv_iconst (v := 3) hx hb nd_Law_law_976 (by decide) ?_
    refine lv_iadd hx hb nd_Law_law_977 ?_
    refine k_sld (n := n) (j := 3) hx hb hX hbl hbA hS (k_sidx rfl) (by omega) hL nd_Law_law_978 ?_
    refine lv_aload_n hx hb nd_Law_law_979 rfl (lv_at hl 1 rfl) ?_
    refine k_uSWI (w2 := wA qc qm qo ca (va_up I 14 R4) J (va_up (va_up (va_up A 25 R1) 26 R2) 27 R3) L i a l9 R5) (As := [.ref (qc 0), .int (xs (n + 1)), .int (xs (n + 2)), .int (xs (n + 3)), .ref qo]) (rest := []) (r := 0) hx hb hml hown hts (cn_Law_rule l D ca (qc 0) (qc 1) (qc 19) (qc 34) (qc 47) (qc 48) (qc 58) (qc 49) (qc 50) (qc 51) (qc 52) (qc 53) qo (I 0) (I 14) (A 25) (A 26) (A 27) o (xs (n + 1)) (xs (n + 2)) (xs (n + 3)) (0 : Int32) R1 R2 R3 R4 R5 e1 _) kc_Law_rule ks_Law_rule tt_585 ⟨by decide, by decide⟩ rfl rfl hP hK hD hS hA [0, 48, 49, 50, 51, 88] rfl (by decide +kernel) rfl rfl rfl hl.1 (Nat.le_of_ble_eq_true rfl) rfl nd_Law_law_980 ⟨by show _ ≤ 601024; omega, by show _ ≤ 7293034; omega⟩ (fun H locs hP hD hS => ?_)
    refine W.widen (k := 400 + n) (n := 20000 + 6 * n) (by omega) (by omega) ?_
    refine lv_istore (lv' := [(5, .int 0), (4, .int (nI n)), (3, .ref qo), (2, .ref (qm 0)), (1, .ref (qc 0)), (0, .ref b)]) hx hb nd_Law_law_983 hl (by decide) rfl (fun ls hl => ?_)
    refine lv_aload_n hx hb nd_Law_law_985 rfl (lv_at hl 3 rfl) ?_
    refine lv_aload_n hx hb nd_Law_law_986 rfl (lv_at hl 5 rfl) ?_
    refine lv_iload hx hb nd_Law_law_987 (lv_at hl 1 rfl) ?_
    refine lv_iconst (v := 1) hx hb nd_Law_law_989 (by decide) ?_
    refine lv_iadd hx hb nd_Law_law_990 ?_
    refine k_sld (n := n) (j := 1) hx hb hX hbl hbA hS (k_sidx rfl) (by omega) hL nd_Law_law_991 ?_
    refine lv_aload_n hx hb nd_Law_law_992 rfl (lv_at hl 5 rfl) ?_
    refine lv_iload hx hb nd_Law_law_993 (lv_at hl 1 rfl) ?_
    refine lv_iconst (v := 2) hx hb nd_Law_law_995 (by decide) ?_
    refine lv_iadd hx hb nd_Law_law_996 ?_
    refine k_sld (n := n) (j := 2) hx hb hX hbl hbA hS (k_sidx rfl) (by omega) hL nd_Law_law_997 ?_
    refine lv_aload_n hx hb nd_Law_law_998 rfl (lv_at hl 5 rfl) ?_
    refine lv_iload hx hb nd_Law_law_999 (lv_at hl 1 rfl) ?_
    refine lv_iconst (v := 3) hx hb nd_Law_law_1001 (by decide) ?_
    refine lv_iadd hx hb nd_Law_law_1002 ?_
    refine k_sld (n := n) (j := 3) hx hb hX hbl hbA hS (k_sidx rfl) (by omega) hL nd_Law_law_1003 ?_
    refine k_uVI (w2 := wA qc qm qo ca (va_up I 14 R4) J (va_up (va_up (va_up A 25 R1) 26 R2) 27 R3) L (va_up (va_up i 0 S1) 7 S5) (va_up (va_up (va_up a 12 S2) 13 S3) 14 S4) l9 R5) (As := [.int (xs (n + 1)), .int (xs (n + 2)), .int (xs (n + 3))]) (rest := []) (r := S0) hx hb hml hown hts (cn_Model_rule l D ca (qm 0) (qm 1) (qm 2) (qm 3) (qm 4) (qm 5) (qm 6) (qm 7) (qm 8) (qm 9) (qm 10) (qm 11) (qm 12) (qm 13) (qm 14) (qm 15) (qm 16) (qm 17) (qm 18) (qm 19) (qm 20) (qm 21) (qm 22) (qm 23) (qm 24) (i 0) (i 1) (i 2) (i 3) (i 4) (i 5) (i 6) (i 7) (a 12) (a 13) (a 14) (xs (n + 1)) (xs (n + 2)) (xs (n + 3)) S0 S1 S2 S3 S4 S5 e2 _) kc_Model_rule kv_Model_rule tt_960 ⟨by decide, by decide⟩ rfl rfl hP hK hD hS hA [63, 80, 81, 82] rfl (by decide +kernel) rfl rfl 0 rfl rfl rfl rfl hl.1 (Nat.le_of_ble_eq_true rfl) rfl nd_Law_law_1004 ⟨by show _ ≤ 601024; omega, by show _ ≤ 7293034; omega⟩ (fun H locs hP hD hS => ?_)
    refine lv_istore (lv' := [(6, .int S0), (5, .int 0), (4, .int (nI n)), (3, .ref qo), (2, .ref (qm 0)), (1, .ref (qc 0)), (0, .ref b)]) hx hb nd_Law_law_1007 hl (by decide) rfl (fun ls hl => ?_)
    refine lv_aload_n hx hb nd_Law_law_1009 rfl (lv_at hl 4 rfl) ?_
    refine k_rVI (As := []) (rest := []) (r := S1) hx hb hml hown hts (cn_Model_thrown l D ca (qm 0) (qm 1) (qm 2) (qm 3) (qm 4) (qm 5) (qm 6) (qm 7) (qm 8) (qm 9) (qm 10) (qm 11) (qm 12) (qm 13) (qm 14) (qm 15) (qm 16) (qm 17) (qm 18) (qm 19) (qm 20) (qm 21) (qm 22) (qm 23) (qm 24) ((va_up (va_up i 0 S1) 7 S5) 0) ((va_up (va_up i 0 S1) 7 S5) 1) ((va_up (va_up i 0 S1) 7 S5) 2) ((va_up (va_up i 0 S1) 7 S5) 3) ((va_up (va_up i 0 S1) 7 S5) 4) ((va_up (va_up i 0 S1) 7 S5) 5) ((va_up (va_up i 0 S1) 7 S5) 6) ((va_up (va_up i 0 S1) 7 S5) 7) S1 rfl) kc_Model_thrown kv_Model_thrown tt_820 ⟨by decide, by decide⟩ rfl rfl hP hK [63] rfl 0 rfl rfl rfl rfl hl.1 (Nat.le_of_ble_eq_true rfl) rfl nd_Law_law_1010 ⟨by show _ ≤ 601024; omega, by show _ ≤ 7293034; omega⟩ ?_
    refine lv_iload hx hb nd_Law_law_1013 (lv_at hl 1 rfl) ?_
    refine lv_icmp_eq (tgt := 1020) hx hb nd_Law_law_1015 (by decide) (fun c1 => ?_) (fun c1 => ?_)
    rotate_left
    · exact absurd et c1
    refine lv_iload hx hb nd_Law_law_1020 (lv_at hl 1 rfl) ?_
    refine lv_if_ne (tgt := 1037) hx hb nd_Law_law_1022 (by decide) (fun c2 => ?_) (fun c2 => ?_)
    · exact absurd rfl c2
    refine lv_aload_n hx hb nd_Law_law_1025 rfl (lv_at hl 3 rfl) ?_
    refine lv_iconst (v := 0) hx hb nd_Law_law_1026 (by decide) ?_
    refine va_lald hx hb hK hP 88 1 rfl rfl (by unfold vp_in; decide) nd_Law_law_1027 ?_
    refine lv_iload hx hb nd_Law_law_1028 (lv_at hl 0 rfl) ?_
    refine lv_i2l hx hb nd_Law_law_1030 rfl ?_
    refine W.lcmp hx hb nd_Law_law_1031 ?_
    refine lv_if_eq (tgt := 1037) hx hb nd_Law_law_1032 (by decide) (fun c3 => ?_) (fun c3 => ?_)
    rotate_left
    · exact absurd ea c3
    refine lv_goto (tgt := 1452) hx hb nd_Law_law_1037 (by decide) ?_
    refine W.widen (k := 400 + n + 1) (n := 20000 + 6 * n + 6) (by omega) (by omega) ?_
    exact hnext _ _ _ _ _ _ _ _ _ _ _ hRel hP hD hS (lv_sub hl [2, 3, 4, 5, 6] rfl)
  ·
    refine lv_aload_n hx hb nd_Law_law_960 rfl (lv_at hl 3 rfl) ?_
    refine lv_aload_n hx hb nd_Law_law_961 rfl (lv_at hl 4 rfl) ?_
    refine lv_iload hx hb nd_Law_law_962 (lv_at hl 0 rfl) ?_
    refine lv_iconst (v := 1) hx hb nd_Law_law_964 (by decide) ?_
    refine lv_iadd hx hb nd_Law_law_965 ?_
    refine k_sld (n := n) (j := 1) hx hb hX hbl hbA hS (k_sidx rfl) (by omega) hL nd_Law_law_966 ?_
    refine lv_aload_n hx hb nd_Law_law_967 rfl (lv_at hl 4 rfl) ?_
    refine lv_iload hx hb nd_Law_law_968 (lv_at hl 0 rfl) ?_
    refine lv_iconst (v := 2) hx hb nd_Law_law_970 (by decide) ?_
    refine lv_iadd hx hb nd_Law_law_971 ?_
    refine k_sld (n := n) (j := 2) hx hb hX hbl hbA hS (k_sidx rfl) (by omega) hL nd_Law_law_972 ?_
    refine lv_aload_n hx hb nd_Law_law_973 rfl (lv_at hl 4 rfl) ?_
    refine lv_iload hx hb nd_Law_law_974 (lv_at hl 0 rfl) ?_
    refine lv_iconst (v := 3) hx hb nd_Law_law_976 (by decide) ?_
    refine lv_iadd hx hb nd_Law_law_977 ?_
    refine k_sld (n := n) (j := 3) hx hb hX hbl hbA hS (k_sidx rfl) (by omega) hL nd_Law_law_978 ?_
    refine lv_aload_n hx hb nd_Law_law_979 rfl (lv_at hl 1 rfl) ?_
    refine k_uSWX (w2 := wA qc qm qo ca I J A L i a l9 o) (As := [.ref (qc 0), .int (xs (n + 1)), .int (xs (n + 2)), .int (xs (n + 3)), .ref qo]) (rest := []) (r := 1) hx hb hml hown hts (hx_Law_rule_2 l hlt D ca (qc 0) (qc 1) (qc 19) (qc 34) (qc 47) (qc 48) (qc 58) (qc 49) (qc 50) (qc 51) (qc 52) (qc 53) qo (I 0) (I 14) (A 25) (A 26) (A 27) o (xs (n + 1)) (xs (n + 2)) (xs (n + 3)) e1 _) kc_Law_rule ks_Law_rule tt_585 ⟨by decide, by decide⟩ rfl rfl hP hK hD hS hA hev [0, 48, 49, 50, 51, 88] rfl (by decide +kernel) rfl rfl rfl hl.1 (Nat.le_of_ble_eq_true rfl) rfl nd_Law_law_980 ⟨by show _ ≤ 601024; omega, by show _ ≤ 7293034; omega⟩ (fun H locs hP hD hS => ?_)
    refine W.widen (k := 400 + n + 1) (n := 20000 + 6 * n + 6) (by omega) (by omega) ?_
    refine lv_istore (lv' := [(5, .int 1), (4, .int (nI n)), (3, .ref qo), (2, .ref (qm 0)), (1, .ref (qc 0)), (0, .ref b)]) hx hb nd_Law_law_983 hl (by decide) rfl (fun ls hl => ?_)
    refine lv_aload_n hx hb nd_Law_law_985 rfl (lv_at hl 3 rfl) ?_
    refine lv_aload_n hx hb nd_Law_law_986 rfl (lv_at hl 5 rfl) ?_
    refine lv_iload hx hb nd_Law_law_987 (lv_at hl 1 rfl) ?_
    refine lv_iconst (v := 1) hx hb nd_Law_law_989 (by decide) ?_
    refine lv_iadd hx hb nd_Law_law_990 ?_
    refine k_sld (n := n) (j := 1) hx hb hX hbl hbA hS (k_sidx rfl) (by omega) hL nd_Law_law_991 ?_
    refine lv_aload_n hx hb nd_Law_law_992 rfl (lv_at hl 5 rfl) ?_
    refine lv_iload hx hb nd_Law_law_993 (lv_at hl 1 rfl) ?_
    refine lv_iconst (v := 2) hx hb nd_Law_law_995 (by decide) ?_
    refine lv_iadd hx hb nd_Law_law_996 ?_
    refine k_sld (n := n) (j := 2) hx hb hX hbl hbA hS (k_sidx rfl) (by omega) hL nd_Law_law_997 ?_
    refine lv_aload_n hx hb nd_Law_law_998 rfl (lv_at hl 5 rfl) ?_
    refine lv_iload hx hb nd_Law_law_999 (lv_at hl 1 rfl) ?_
    refine lv_iconst (v := 3) hx hb nd_Law_law_1001 (by decide) ?_
    refine lv_iadd hx hb nd_Law_law_1002 ?_
    refine k_sld (n := n) (j := 3) hx hb hX hbl hbA hS (k_sidx rfl) (by omega) hL nd_Law_law_1003 ?_
    refine k_uVI (w2 := wA qc qm qo ca I J A L (va_up (va_up i 0 S1) 7 S5) (va_up (va_up (va_up a 12 S2) 13 S3) 14 S4) l9 o) (As := [.int (xs (n + 1)), .int (xs (n + 2)), .int (xs (n + 3))]) (rest := []) (r := S0) hx hb hml hown hts (cn_Model_rule l D ca (qm 0) (qm 1) (qm 2) (qm 3) (qm 4) (qm 5) (qm 6) (qm 7) (qm 8) (qm 9) (qm 10) (qm 11) (qm 12) (qm 13) (qm 14) (qm 15) (qm 16) (qm 17) (qm 18) (qm 19) (qm 20) (qm 21) (qm 22) (qm 23) (qm 24) (i 0) (i 1) (i 2) (i 3) (i 4) (i 5) (i 6) (i 7) (a 12) (a 13) (a 14) (xs (n + 1)) (xs (n + 2)) (xs (n + 3)) S0 S1 S2 S3 S4 S5 e2 _) kc_Model_rule kv_Model_rule tt_960 ⟨by decide, by decide⟩ rfl rfl hP hK hD hS hA [63, 80, 81, 82] rfl (by decide +kernel) rfl rfl 0 rfl rfl rfl rfl hl.1 (Nat.le_of_ble_eq_true rfl) rfl nd_Law_law_1004 ⟨by show _ ≤ 601024; omega, by show _ ≤ 7293034; omega⟩ (fun H locs hP hD hS => ?_)
    refine lv_istore (lv' := [(6, .int S0), (5, .int 1), (4, .int (nI n)), (3, .ref qo), (2, .ref (qm 0)), (1, .ref (qc 0)), (0, .ref b)]) hx hb nd_Law_law_1007 hl (by decide) rfl (fun ls hl => ?_)
    refine lv_aload_n hx hb nd_Law_law_1009 rfl (lv_at hl 4 rfl) ?_
    refine k_rVI (As := []) (rest := []) (r := S1) hx hb hml hown hts (cn_Model_thrown l D ca (qm 0) (qm 1) (qm 2) (qm 3) (qm 4) (qm 5) (qm 6) (qm 7) (qm 8) (qm 9) (qm 10) (qm 11) (qm 12) (qm 13) (qm 14) (qm 15) (qm 16) (qm 17) (qm 18) (qm 19) (qm 20) (qm 21) (qm 22) (qm 23) (qm 24) ((va_up (va_up i 0 S1) 7 S5) 0) ((va_up (va_up i 0 S1) 7 S5) 1) ((va_up (va_up i 0 S1) 7 S5) 2) ((va_up (va_up i 0 S1) 7 S5) 3) ((va_up (va_up i 0 S1) 7 S5) 4) ((va_up (va_up i 0 S1) 7 S5) 5) ((va_up (va_up i 0 S1) 7 S5) 6) ((va_up (va_up i 0 S1) 7 S5) 7) S1 rfl) kc_Model_thrown kv_Model_thrown tt_820 ⟨by decide, by decide⟩ rfl rfl hP hK [63] rfl 0 rfl rfl rfl rfl hl.1 (Nat.le_of_ble_eq_true rfl) rfl nd_Law_law_1010 ⟨by show _ ≤ 601024; omega, by show _ ≤ 7293034; omega⟩ ?_
    refine lv_iload hx hb nd_Law_law_1013 (lv_at hl 1 rfl) ?_
    refine lv_icmp_eq (tgt := 1020) hx hb nd_Law_law_1015 (by decide) (fun c4 => ?_) (fun c4 => ?_)
    rotate_left
    · exact absurd et c4
    refine lv_iload hx hb nd_Law_law_1020 (lv_at hl 1 rfl) ?_
    refine lv_if_ne (tgt := 1037) hx hb nd_Law_law_1022 (by decide) (fun c5 => ?_) (fun c5 => ?_)
    rotate_left
    · exact absurd c5 (by decide)
    refine lv_goto (tgt := 1452) hx hb nd_Law_law_1037 (by decide) ?_
    refine W.widen (k := 400 + n + 1) (n := 20000 + 6 * n + 6) (by omega) (by omega) ?_
    exact hnext _ _ _ _ _ _ _ _ _ _ _ hRel hP hD hS (lv_sub hl [2, 3, 4, 5, 6] rfl)
  ·
    refine lv_aload_n hx hb nd_Law_law_960 rfl (lv_at hl 3 rfl) ?_
    refine lv_aload_n hx hb nd_Law_law_961 rfl (lv_at hl 4 rfl) ?_
    refine lv_iload hx hb nd_Law_law_962 (lv_at hl 0 rfl) ?_
    refine lv_iconst (v := 1) hx hb nd_Law_law_964 (by decide) ?_
    refine lv_iadd hx hb nd_Law_law_965 ?_
    refine k_sld (n := n) (j := 1) hx hb hX hbl hbA hS (k_sidx rfl) (by omega) hL nd_Law_law_966 ?_
    refine lv_aload_n hx hb nd_Law_law_967 rfl (lv_at hl 4 rfl) ?_
    refine lv_iload hx hb nd_Law_law_968 (lv_at hl 0 rfl) ?_
    refine lv_iconst (v := 2) hx hb nd_Law_law_970 (by decide) ?_
    refine lv_iadd hx hb nd_Law_law_971 ?_
    refine k_sld (n := n) (j := 2) hx hb hX hbl hbA hS (k_sidx rfl) (by omega) hL nd_Law_law_972 ?_
    refine lv_aload_n hx hb nd_Law_law_973 rfl (lv_at hl 4 rfl) ?_
    refine lv_iload hx hb nd_Law_law_974 (lv_at hl 0 rfl) ?_
    refine lv_iconst (v := 3) hx hb nd_Law_law_976 (by decide) ?_
    refine lv_iadd hx hb nd_Law_law_977 ?_
    refine k_sld (n := n) (j := 3) hx hb hX hbl hbA hS (k_sidx rfl) (by omega) hL nd_Law_law_978 ?_
    refine lv_aload_n hx hb nd_Law_law_979 rfl (lv_at hl 1 rfl) ?_
    refine k_uSWX (w2 := wA qc qm qo ca I J A L i a l9 o) (As := [.ref (qc 0), .int (xs (n + 1)), .int (xs (n + 2)), .int (xs (n + 3)), .ref qo]) (rest := []) (r := 2) hx hb hml hown hts (hx_Law_rule_3 l hlt D ca (qc 0) (qc 1) (qc 19) (qc 34) (qc 47) (qc 48) (qc 58) (qc 49) (qc 50) (qc 51) (qc 52) (qc 53) qo (I 0) (I 14) (A 25) (A 26) (A 27) o (xs (n + 1)) (xs (n + 2)) (xs (n + 3)) e1 _) kc_Law_rule ks_Law_rule tt_585 ⟨by decide, by decide⟩ rfl rfl hP hK hD hS hA hev [0, 48, 49, 50, 51, 88] rfl (by decide +kernel) rfl rfl rfl hl.1 (Nat.le_of_ble_eq_true rfl) rfl nd_Law_law_980 ⟨by show _ ≤ 601024; omega, by show _ ≤ 7293034; omega⟩ (fun H locs hP hD hS => ?_)
    refine W.widen (k := 400 + n + 1) (n := 20000 + 6 * n + 6) (by omega) (by omega) ?_
    refine lv_istore (lv' := [(5, .int 2), (4, .int (nI n)), (3, .ref qo), (2, .ref (qm 0)), (1, .ref (qc 0)), (0, .ref b)]) hx hb nd_Law_law_983 hl (by decide) rfl (fun ls hl => ?_)
    refine lv_aload_n hx hb nd_Law_law_985 rfl (lv_at hl 3 rfl) ?_
    refine lv_aload_n hx hb nd_Law_law_986 rfl (lv_at hl 5 rfl) ?_
    refine lv_iload hx hb nd_Law_law_987 (lv_at hl 1 rfl) ?_
    refine lv_iconst (v := 1) hx hb nd_Law_law_989 (by decide) ?_
    refine lv_iadd hx hb nd_Law_law_990 ?_
    refine k_sld (n := n) (j := 1) hx hb hX hbl hbA hS (k_sidx rfl) (by omega) hL nd_Law_law_991 ?_
    refine lv_aload_n hx hb nd_Law_law_992 rfl (lv_at hl 5 rfl) ?_
    refine lv_iload hx hb nd_Law_law_993 (lv_at hl 1 rfl) ?_
    refine lv_iconst (v := 2) hx hb nd_Law_law_995 (by decide) ?_
    refine lv_iadd hx hb nd_Law_law_996 ?_
    refine k_sld (n := n) (j := 2) hx hb hX hbl hbA hS (k_sidx rfl) (by omega) hL nd_Law_law_997 ?_
    refine lv_aload_n hx hb nd_Law_law_998 rfl (lv_at hl 5 rfl) ?_
    refine lv_iload hx hb nd_Law_law_999 (lv_at hl 1 rfl) ?_
    refine lv_iconst (v := 3) hx hb nd_Law_law_1001 (by decide) ?_
    refine lv_iadd hx hb nd_Law_law_1002 ?_
    refine k_sld (n := n) (j := 3) hx hb hX hbl hbA hS (k_sidx rfl) (by omega) hL nd_Law_law_1003 ?_
    refine k_uVI (w2 := wA qc qm qo ca I J A L (va_up (va_up i 0 S1) 7 S5) (va_up (va_up (va_up a 12 S2) 13 S3) 14 S4) l9 o) (As := [.int (xs (n + 1)), .int (xs (n + 2)), .int (xs (n + 3))]) (rest := []) (r := S0) hx hb hml hown hts (cn_Model_rule l D ca (qm 0) (qm 1) (qm 2) (qm 3) (qm 4) (qm 5) (qm 6) (qm 7) (qm 8) (qm 9) (qm 10) (qm 11) (qm 12) (qm 13) (qm 14) (qm 15) (qm 16) (qm 17) (qm 18) (qm 19) (qm 20) (qm 21) (qm 22) (qm 23) (qm 24) (i 0) (i 1) (i 2) (i 3) (i 4) (i 5) (i 6) (i 7) (a 12) (a 13) (a 14) (xs (n + 1)) (xs (n + 2)) (xs (n + 3)) S0 S1 S2 S3 S4 S5 e2 _) kc_Model_rule kv_Model_rule tt_960 ⟨by decide, by decide⟩ rfl rfl hP hK hD hS hA [63, 80, 81, 82] rfl (by decide +kernel) rfl rfl 0 rfl rfl rfl rfl hl.1 (Nat.le_of_ble_eq_true rfl) rfl nd_Law_law_1004 ⟨by show _ ≤ 601024; omega, by show _ ≤ 7293034; omega⟩ (fun H locs hP hD hS => ?_)
    refine lv_istore (lv' := [(6, .int S0), (5, .int 2), (4, .int (nI n)), (3, .ref qo), (2, .ref (qm 0)), (1, .ref (qc 0)), (0, .ref b)]) hx hb nd_Law_law_1007 hl (by decide) rfl (fun ls hl => ?_)
    refine lv_aload_n hx hb nd_Law_law_1009 rfl (lv_at hl 4 rfl) ?_
    refine k_rVI (As := []) (rest := []) (r := S1) hx hb hml hown hts (cn_Model_thrown l D ca (qm 0) (qm 1) (qm 2) (qm 3) (qm 4) (qm 5) (qm 6) (qm 7) (qm 8) (qm 9) (qm 10) (qm 11) (qm 12) (qm 13) (qm 14) (qm 15) (qm 16) (qm 17) (qm 18) (qm 19) (qm 20) (qm 21) (qm 22) (qm 23) (qm 24) ((va_up (va_up i 0 S1) 7 S5) 0) ((va_up (va_up i 0 S1) 7 S5) 1) ((va_up (va_up i 0 S1) 7 S5) 2) ((va_up (va_up i 0 S1) 7 S5) 3) ((va_up (va_up i 0 S1) 7 S5) 4) ((va_up (va_up i 0 S1) 7 S5) 5) ((va_up (va_up i 0 S1) 7 S5) 6) ((va_up (va_up i 0 S1) 7 S5) 7) S1 rfl) kc_Model_thrown kv_Model_thrown tt_820 ⟨by decide, by decide⟩ rfl rfl hP hK [63] rfl 0 rfl rfl rfl rfl hl.1 (Nat.le_of_ble_eq_true rfl) rfl nd_Law_law_1010 ⟨by show _ ≤ 601024; omega, by show _ ≤ 7293034; omega⟩ ?_
    refine lv_iload hx hb nd_Law_law_1013 (lv_at hl 1 rfl) ?_
    refine lv_icmp_eq (tgt := 1020) hx hb nd_Law_law_1015 (by decide) (fun c6 => ?_) (fun c6 => ?_)
    rotate_left
    · exact absurd et c6
    refine lv_iload hx hb nd_Law_law_1020 (lv_at hl 1 rfl) ?_
    refine lv_if_ne (tgt := 1037) hx hb nd_Law_law_1022 (by decide) (fun c7 => ?_) (fun c7 => ?_)
    rotate_left
    · exact absurd c7 (by decide)
    refine lv_goto (tgt := 1452) hx hb nd_Law_law_1037 (by decide) ?_
    refine W.widen (k := 400 + n + 1) (n := 20000 + 6 * n + 6) (by omega) (by omega) ?_
    exact hnext _ _ _ _ _ _ _ _ _ _ _ hRel hP hD hS (lv_sub hl [2, 3, 4, 5, 6] rfl)
set_option maxHeartbeats 8000000 in
set_option maxRecDepth 100000 in
theorem lc_alarm {p : Program} {l : Launch} {e : Env} {s : State} {m : MethodId} {below : List Frame} {meth : Method} {c : Code} {D : va_G} {ca : Nat → ClassId} {b Ls : Nat} {xs : Nat → Int32} (C0 : lw_At p s m meth c b Ls xs) (hL : Ls ≤ 2560) (hlt : l.stackTraces = false) (hev0 : xt_ev s s.heap) (hK : va_K D vwCl (tyG ca) s) {Rel : (Nat → Int32) → (Nat → Int64) → (Nat → Nat → Int32) → (Nat → Nat → Int64) → (Nat → Int32) → (Nat → Nat → Int32) → (Nat → Nat → Int64) → Prop} {qc qm : Nat → Nat} {qo : Nat} {I : Nat → Int32} {J : Nat → Int64} {A : Nat → Nat → Int32} {L : Nat → Nat → Int64} {i : Nat → Int32} {a : Nat → Nat → Int32} {l9 : Nat → Nat → Int64} {o : Nat → Int64} {n : Nat} (hn : n + 5 ≤ Ls) {H : Heap} {locs : List Loc} {ls : Array Slot} (hP : va_P D vwCl (wA qc qm qo ca I J A L i a l9 o) H) (hD : va_D (fun q : Nat => s.heap.size ≤ q) (wA qc qm qo ca I J A L i a l9 o)) (hS : va_S (fun q : Nat => s.heap.size ≤ q) s.heap H locs) (hl : lv_has ls 8 [(4, .int (nI n)), (3, .ref qo), (2, .ref (qm 0)), (1, .ref (qc 0)), (0, .ref b)]) (hst : st_alarm Rel I J A L i a l9 o (xs (n + 1)) (xs (n + 2))) (hnext : ∀ (I : Nat → Int32) (J : Nat → Int64) (A : Nat → Nat → Int32) (L : Nat → Nat → Int64) (i : Nat → Int32) (a : Nat → Nat → Int32) (l9 : Nat → Nat → Int64) (o : Nat → Int64) (H : Heap) (locs : List Loc) (ls : Array Slot), Rel I J A L i a l9 → va_P D vwCl (wA qc qm qo ca I J A L i a l9 o) H → va_D (fun q : Nat => s.heap.size ≤ q) (wA qc qm qo ca I J A L i a l9 o) → va_S (fun q : Nat => s.heap.size ≤ q) s.heap H locs → lv_has ls 8 [(4, .int (nI n)), (3, .ref qo), (2, .ref (qm 0)), (1, .ref (qc 0)), (0, .ref b)] → W p l e room_1 s m #[Value.ref b] below meth c H locs (400 + n + 1) (20000 + 6 * n + 6) (lw_Z below #[Value.ref b] s) (F0 m 1452 ls [])) : W p l e room_1 s m #[Value.ref b] below meth c H locs (400 + n) (20000 + 6 * n) (lw_Z below #[Value.ref b] s) (F0 m 1040 ls []) := by
  obtain ⟨hx, hb, hr, hml, hown, hts0, hX, hbl, hlocks, hgv⟩ := C0
  have hts : ∀ w ∈ TT, w.before #[Value.ref b] s = true := fun w h => hts0 w (List.mem_filter.mp h).1
  have hA : ∀ q : Nat, s.heap.size ≤ q → (fun q : Nat => s.heap.size ≤ q) q := fun _ h => h
  have hbA : ¬ (fun q : Nat => s.heap.size ≤ q) b := Nat.not_le.mpr hbl
  have hown : s.vm.findClass nR_Law = some m.cls := hown
  have hev : xt_ev s H := k_evH hev0 hS
  unfold st_alarm at hst
  rcases hst with ⟨R1, S0, S1, e1, e2, et, ea, hRel⟩ | ⟨S0, S1, e1, e2, et, hRel⟩
  ·
    refine lv_aload_n hx hb nd_Law_law_1040 rfl (lv_at hl 3 rfl) ?_
    refine lv_aload_n hx hb nd_Law_law_1041 rfl (lv_at hl 4 rfl) ?_
    refine lv_iload hx hb nd_Law_law_1042 (lv_at hl 0 rfl) ?_
    refine lv_iconst (v := 1) hx hb nd_Law_law_1044 (by decide) ?_
    refine lv_iadd hx hb nd_Law_law_1045 ?_
    refine k_sld (n := n) (j := 1) hx hb hX hbl hbA hS (k_sidx rfl) (by omega) hL nd_Law_law_1046 ?_
    refine lv_aload_n hx hb nd_Law_law_1047 rfl (lv_at hl 4 rfl) ?_
    refine lv_iload hx hb nd_Law_law_1048 (lv_at hl 0 rfl) ?_
    refine lv_iconst (v := 2) hx hb nd_Law_law_1050 (by decide) ?_
    refine lv_iadd hx hb nd_Law_law_1051 ?_
    refine k_sld (n := n) (j := 2) hx hb hX hbl hbA hS (k_sidx rfl) (by omega) hL nd_Law_law_1052 ?_
    refine lv_aload_n hx hb nd_Law_law_1053 rfl (lv_at hl 1 rfl) ?_
    refine k_uSWI (w2 := wA qc qm qo ca I J A L i a l9 R1) (As := [.ref (qc 0), .int (xs (n + 1)), .int (xs (n + 2)), .ref qo]) (rest := []) (r := 0) hx hb hml hown hts (cn_Law_alarm l D ca (qc 0) (qc 1) (qc 19) (qc 34) (qc 47) (qc 48) (qc 58) (qc 49) (qc 50) (qc 51) (qc 52) (qc 53) (qc 54) (qc 55) (qc 56) (qc 57) qo (I 0) (I 14) (A 28) (A 29) (A 30) (A 31) (A 32) o (xs (n + 1)) (xs (n + 2)) (0 : Int32) R1 e1 _) kc_Law_alarm ks_Law_alarm tt_596 ⟨by decide, by decide⟩ rfl rfl hP hK hD hS hA [0, 48, 52, 53, 54, 55, 56, 57, 88] rfl (by decide +kernel) rfl rfl rfl hl.1 (Nat.le_of_ble_eq_true rfl) rfl nd_Law_law_1054 ⟨by show _ ≤ 601024; omega, by show _ ≤ 7293034; omega⟩ (fun H locs hP hD hS => ?_)
    refine W.widen (k := 400 + n) (n := 20000 + 6 * n) (by omega) (by omega) ?_
    refine lv_istore (lv' := [(5, .int 0), (4, .int (nI n)), (3, .ref qo), (2, .ref (qm 0)), (1, .ref (qc 0)), (0, .ref b)]) hx hb nd_Law_law_1057 hl (by decide) rfl (fun ls hl => ?_)
    refine lv_aload_n hx hb nd_Law_law_1059 rfl (lv_at hl 3 rfl) ?_
    refine lv_aload_n hx hb nd_Law_law_1060 rfl (lv_at hl 5 rfl) ?_
    refine lv_iload hx hb nd_Law_law_1061 (lv_at hl 1 rfl) ?_
    refine lv_iconst (v := 1) hx hb nd_Law_law_1063 (by decide) ?_
    refine lv_iadd hx hb nd_Law_law_1064 ?_
    refine k_sld (n := n) (j := 1) hx hb hX hbl hbA hS (k_sidx rfl) (by omega) hL nd_Law_law_1065 ?_
    refine lv_aload_n hx hb nd_Law_law_1066 rfl (lv_at hl 5 rfl) ?_
    refine lv_iload hx hb nd_Law_law_1067 (lv_at hl 1 rfl) ?_
    refine lv_iconst (v := 2) hx hb nd_Law_law_1069 (by decide) ?_
    refine lv_iadd hx hb nd_Law_law_1070 ?_
    refine k_sld (n := n) (j := 2) hx hb hX hbl hbA hS (k_sidx rfl) (by omega) hL nd_Law_law_1071 ?_
    refine k_uVI (w2 := wA qc qm qo ca I J A L (va_up i 0 S1) a l9 R1) (As := [.int (xs (n + 1)), .int (xs (n + 2))]) (rest := []) (r := S0) hx hb hml hown hts (cn_Model_alarm l D ca (qm 0) (qm 1) (qm 2) (qm 3) (qm 4) (qm 5) (qm 6) (qm 7) (qm 8) (qm 9) (qm 10) (qm 11) (qm 12) (qm 13) (qm 14) (qm 15) (qm 16) (qm 17) (qm 18) (qm 19) (qm 20) (qm 21) (qm 22) (qm 23) (qm 24) (i 0) (i 1) (i 2) (i 3) (i 4) (i 5) (i 6) (i 7) (a 15) (a 16) (xs (n + 1)) (xs (n + 2)) S0 S1 e2 _) kc_Model_alarm kv_Model_alarm tt_964 ⟨by decide, by decide⟩ rfl rfl hP hK hD hS hA [63, 83, 84] rfl (by decide +kernel) rfl rfl 0 rfl rfl rfl rfl hl.1 (Nat.le_of_ble_eq_true rfl) rfl nd_Law_law_1072 ⟨by show _ ≤ 601024; omega, by show _ ≤ 7293034; omega⟩ (fun H locs hP hD hS => ?_)
    refine lv_istore (lv' := [(6, .int S0), (5, .int 0), (4, .int (nI n)), (3, .ref qo), (2, .ref (qm 0)), (1, .ref (qc 0)), (0, .ref b)]) hx hb nd_Law_law_1075 hl (by decide) rfl (fun ls hl => ?_)
    refine lv_aload_n hx hb nd_Law_law_1077 rfl (lv_at hl 4 rfl) ?_
    refine k_rVI (As := []) (rest := []) (r := S1) hx hb hml hown hts (cn_Model_thrown l D ca (qm 0) (qm 1) (qm 2) (qm 3) (qm 4) (qm 5) (qm 6) (qm 7) (qm 8) (qm 9) (qm 10) (qm 11) (qm 12) (qm 13) (qm 14) (qm 15) (qm 16) (qm 17) (qm 18) (qm 19) (qm 20) (qm 21) (qm 22) (qm 23) (qm 24) ((va_up i 0 S1) 0) ((va_up i 0 S1) 1) ((va_up i 0 S1) 2) ((va_up i 0 S1) 3) ((va_up i 0 S1) 4) ((va_up i 0 S1) 5) ((va_up i 0 S1) 6) ((va_up i 0 S1) 7) S1 rfl) kc_Model_thrown kv_Model_thrown tt_820 ⟨by decide, by decide⟩ rfl rfl hP hK [63] rfl 0 rfl rfl rfl rfl hl.1 (Nat.le_of_ble_eq_true rfl) rfl nd_Law_law_1078 ⟨by show _ ≤ 601024; omega, by show _ ≤ 7293034; omega⟩ ?_
    refine lv_iload hx hb nd_Law_law_1081 (lv_at hl 1 rfl) ?_
    refine lv_icmp_eq (tgt := 1088) hx hb nd_Law_law_1083 (by decide) (fun c1 => ?_) (fun c1 => ?_)
    rotate_left
    · exact absurd et c1
    refine lv_iload hx hb nd_Law_law_1088 (lv_at hl 1 rfl) ?_
    refine lv_if_ne (tgt := 1105) hx hb nd_Law_law_1090 (by decide) (fun c2 => ?_) (fun c2 => ?_)
    · exact absurd rfl c2
    refine lv_aload_n hx hb nd_Law_law_1093 rfl (lv_at hl 3 rfl) ?_
    refine lv_iconst (v := 0) hx hb nd_Law_law_1094 (by decide) ?_
    refine va_lald hx hb hK hP 88 1 rfl rfl (by unfold vp_in; decide) nd_Law_law_1095 ?_
    refine lv_iload hx hb nd_Law_law_1096 (lv_at hl 0 rfl) ?_
    refine lv_i2l hx hb nd_Law_law_1098 rfl ?_
    refine W.lcmp hx hb nd_Law_law_1099 ?_
    refine lv_if_eq (tgt := 1105) hx hb nd_Law_law_1100 (by decide) (fun c3 => ?_) (fun c3 => ?_)
    rotate_left
    · exact absurd ea c3
    refine lv_goto (tgt := 1452) hx hb nd_Law_law_1105 (by decide) ?_
    refine W.widen (k := 400 + n + 1) (n := 20000 + 6 * n + 6) (by omega) (by omega) ?_
    exact hnext _ _ _ _ _ _ _ _ _ _ _ hRel hP hD hS (lv_sub hl [2, 3, 4, 5, 6] rfl)
  ·
    refine lv_aload_n hx hb nd_Law_law_1040 rfl (lv_at hl 3 rfl) ?_
    refine lv_aload_n hx hb nd_Law_law_1041 rfl (lv_at hl 4 rfl) ?_
    refine lv_iload hx hb nd_Law_law_1042 (lv_at hl 0 rfl) ?_
    refine lv_iconst (v := 1) hx hb nd_Law_law_1044 (by decide) ?_
    refine lv_iadd hx hb nd_Law_law_1045 ?_
    refine k_sld (n := n) (j := 1) hx hb hX hbl hbA hS (k_sidx rfl) (by omega) hL nd_Law_law_1046 ?_
    refine lv_aload_n hx hb nd_Law_law_1047 rfl (lv_at hl 4 rfl) ?_
    refine lv_iload hx hb nd_Law_law_1048 (lv_at hl 0 rfl) ?_
    refine lv_iconst (v := 2) hx hb nd_Law_law_1050 (by decide) ?_
    refine lv_iadd hx hb nd_Law_law_1051 ?_
    refine k_sld (n := n) (j := 2) hx hb hX hbl hbA hS (k_sidx rfl) (by omega) hL nd_Law_law_1052 ?_
    refine lv_aload_n hx hb nd_Law_law_1053 rfl (lv_at hl 1 rfl) ?_
    refine k_uSWX (w2 := wA qc qm qo ca I J A L i a l9 o) (As := [.ref (qc 0), .int (xs (n + 1)), .int (xs (n + 2)), .ref qo]) (rest := []) (r := 1) hx hb hml hown hts (hx_Law_alarm_1 l hlt D ca (qc 0) (qc 1) (qc 19) (qc 34) (qc 47) (qc 48) (qc 58) (qc 49) (qc 50) (qc 51) (qc 52) (qc 53) (qc 54) (qc 55) (qc 56) (qc 57) qo (I 0) (I 14) (A 28) (A 29) (A 30) (A 31) (A 32) o (xs (n + 1)) (xs (n + 2)) e1 _) kc_Law_alarm ks_Law_alarm tt_596 ⟨by decide, by decide⟩ rfl rfl hP hK hD hS hA hev [0, 48, 52, 53, 54, 55, 56, 57, 88] rfl (by decide +kernel) rfl rfl rfl hl.1 (Nat.le_of_ble_eq_true rfl) rfl nd_Law_law_1054 ⟨by show _ ≤ 601024; omega, by show _ ≤ 7293034; omega⟩ (fun H locs hP hD hS => ?_)
    refine W.widen (k := 400 + n + 1) (n := 20000 + 6 * n + 6) (by omega) (by omega) ?_
    refine lv_istore (lv' := [(5, .int 1), (4, .int (nI n)), (3, .ref qo), (2, .ref (qm 0)), (1, .ref (qc 0)), (0, .ref b)]) hx hb nd_Law_law_1057 hl (by decide) rfl (fun ls hl => ?_)
    refine lv_aload_n hx hb nd_Law_law_1059 rfl (lv_at hl 3 rfl) ?_
    refine lv_aload_n hx hb nd_Law_law_1060 rfl (lv_at hl 5 rfl) ?_
    refine lv_iload hx hb nd_Law_law_1061 (lv_at hl 1 rfl) ?_
    refine lv_iconst (v := 1) hx hb nd_Law_law_1063 (by decide) ?_
    refine lv_iadd hx hb nd_Law_law_1064 ?_
    refine k_sld (n := n) (j := 1) hx hb hX hbl hbA hS (k_sidx rfl) (by omega) hL nd_Law_law_1065 ?_
    refine lv_aload_n hx hb nd_Law_law_1066 rfl (lv_at hl 5 rfl) ?_
    refine lv_iload hx hb nd_Law_law_1067 (lv_at hl 1 rfl) ?_
    refine lv_iconst (v := 2) hx hb nd_Law_law_1069 (by decide) ?_
    refine lv_iadd hx hb nd_Law_law_1070 ?_
    refine k_sld (n := n) (j := 2) hx hb hX hbl hbA hS (k_sidx rfl) (by omega) hL nd_Law_law_1071 ?_
    refine k_uVI (w2 := wA qc qm qo ca I J A L (va_up i 0 S1) a l9 o) (As := [.int (xs (n + 1)), .int (xs (n + 2))]) (rest := []) (r := S0) hx hb hml hown hts (cn_Model_alarm l D ca (qm 0) (qm 1) (qm 2) (qm 3) (qm 4) (qm 5) (qm 6) (qm 7) (qm 8) (qm 9) (qm 10) (qm 11) (qm 12) (qm 13) (qm 14) (qm 15) (qm 16) (qm 17) (qm 18) (qm 19) (qm 20) (qm 21) (qm 22) (qm 23) (qm 24) (i 0) (i 1) (i 2) (i 3) (i 4) (i 5) (i 6) (i 7) (a 15) (a 16) (xs (n + 1)) (xs (n + 2)) S0 S1 e2 _) kc_Model_alarm kv_Model_alarm tt_964 ⟨by decide, by decide⟩ rfl rfl hP hK hD hS hA [63, 83, 84] rfl (by decide +kernel) rfl rfl 0 rfl rfl rfl rfl hl.1 (Nat.le_of_ble_eq_true rfl) rfl nd_Law_law_1072 ⟨by show _ ≤ 601024; omega, by show _ ≤ 7293034; omega⟩ (fun H locs hP hD hS => ?_)
    refine lv_istore (lv' := [(6, .int S0), (5, .int 1), (4, .int (nI n)), (3, .ref qo), (2, .ref (qm 0)), (1, .ref (qc 0)), (0, .ref b)]) hx hb nd_Law_law_1075 hl (by decide) rfl (fun ls hl => ?_)
    refine lv_aload_n hx hb nd_Law_law_1077 rfl (lv_at hl 4 rfl) ?_
    refine k_rVI (As := []) (rest := []) (r := S1) hx hb hml hown hts (cn_Model_thrown l D ca (qm 0) (qm 1) (qm 2) (qm 3) (qm 4) (qm 5) (qm 6) (qm 7) (qm 8) (qm 9) (qm 10) (qm 11) (qm 12) (qm 13) (qm 14) (qm 15) (qm 16) (qm 17) (qm 18) (qm 19) (qm 20) (qm 21) (qm 22) (qm 23) (qm 24) ((va_up i 0 S1) 0) ((va_up i 0 S1) 1) ((va_up i 0 S1) 2) ((va_up i 0 S1) 3) ((va_up i 0 S1) 4) ((va_up i 0 S1) 5) ((va_up i 0 S1) 6) ((va_up i 0 S1) 7) S1 rfl) kc_Model_thrown kv_Model_thrown tt_820 ⟨by decide, by decide⟩ rfl rfl hP hK [63] rfl 0 rfl rfl rfl rfl hl.1 (Nat.le_of_ble_eq_true rfl) rfl nd_Law_law_1078 ⟨by show _ ≤ 601024; omega, by show _ ≤ 7293034; omega⟩ ?_
    refine lv_iload hx hb nd_Law_law_1081 (lv_at hl 1 rfl) ?_
    refine lv_icmp_eq (tgt := 1088) hx hb nd_Law_law_1083 (by decide) (fun c4 => ?_) (fun c4 => ?_)
    rotate_left
    · exact absurd et c4
    refine lv_iload hx hb nd_Law_law_1088 (lv_at hl 1 rfl) ?_
    refine lv_if_ne (tgt := 1105) hx hb nd_Law_law_1090 (by decide) (fun c5 => ?_) (fun c5 => ?_)
    rotate_left
    · exact absurd c5 (by decide)
    refine lv_goto (tgt := 1452) hx hb nd_Law_law_1105 (by decide) ?_
    refine W.widen (k := 400 + n + 1) (n := 20000 + 6 * n + 6) (by omega) (by omega) ?_
    exact hnext _ _ _ _ _ _ _ _ _ _ _ hRel hP hD hS (lv_sub hl [2, 3, 4, 5, 6] rfl)
set_option maxHeartbeats 8000000 in
set_option maxRecDepth 100000 in
theorem lc_sensor {p : Program} {l : Launch} {e : Env} {s : State} {m : MethodId} {below : List Frame} {meth : Method} {c : Code} {D : va_G} {ca : Nat → ClassId} {b Ls : Nat} {xs : Nat → Int32} (C0 : lw_At p s m meth c b Ls xs) (hL : Ls ≤ 2560) (hlt : l.stackTraces = false) (hev0 : xt_ev s s.heap) (hK : va_K D vwCl (tyG ca) s) {Rel : (Nat → Int32) → (Nat → Int64) → (Nat → Nat → Int32) → (Nat → Nat → Int64) → (Nat → Int32) → (Nat → Nat → Int32) → (Nat → Nat → Int64) → Prop} {qc qm : Nat → Nat} {qo : Nat} {I : Nat → Int32} {J : Nat → Int64} {A : Nat → Nat → Int32} {L : Nat → Nat → Int64} {i : Nat → Int32} {a : Nat → Nat → Int32} {l9 : Nat → Nat → Int64} {o : Nat → Int64} {n : Nat} (hn : n + 5 ≤ Ls) {H : Heap} {locs : List Loc} {ls : Array Slot} (hP : va_P D vwCl (wA qc qm qo ca I J A L i a l9 o) H) (hD : va_D (fun q : Nat => s.heap.size ≤ q) (wA qc qm qo ca I J A L i a l9 o)) (hS : va_S (fun q : Nat => s.heap.size ≤ q) s.heap H locs) (hl : lv_has ls 8 [(4, .int (nI n)), (3, .ref qo), (2, .ref (qm 0)), (1, .ref (qc 0)), (0, .ref b)]) (hst : st_sensor Rel I J A L i a l9 o (xs (n + 1)) (xs (n + 2))) (hnext : ∀ (I : Nat → Int32) (J : Nat → Int64) (A : Nat → Nat → Int32) (L : Nat → Nat → Int64) (i : Nat → Int32) (a : Nat → Nat → Int32) (l9 : Nat → Nat → Int64) (o : Nat → Int64) (H : Heap) (locs : List Loc) (ls : Array Slot), Rel I J A L i a l9 → va_P D vwCl (wA qc qm qo ca I J A L i a l9 o) H → va_D (fun q : Nat => s.heap.size ≤ q) (wA qc qm qo ca I J A L i a l9 o) → va_S (fun q : Nat => s.heap.size ≤ q) s.heap H locs → lv_has ls 8 [(4, .int (nI n)), (3, .ref qo), (2, .ref (qm 0)), (1, .ref (qc 0)), (0, .ref b)] → W p l e room_1 s m #[Value.ref b] below meth c H locs (400 + n + 1) (20000 + 6 * n + 6) (lw_Z below #[Value.ref b] s) (F0 m 1452 ls [])) : W p l e room_1 s m #[Value.ref b] below meth c H locs (400 + n) (20000 + 6 * n) (lw_Z below #[Value.ref b] s) (F0 m 1108 ls []) := by
  obtain ⟨hx, hb, hr, hml, hown, hts0, hX, hbl, hlocks, hgv⟩ := C0
  have hts : ∀ w ∈ TT, w.before #[Value.ref b] s = true := fun w h => hts0 w (List.mem_filter.mp h).1
  have hA : ∀ q : Nat, s.heap.size ≤ q → (fun q : Nat => s.heap.size ≤ q) q := fun _ h => h
  have hbA : ¬ (fun q : Nat => s.heap.size ≤ q) b := Nat.not_le.mpr hbl
  have hown : s.vm.findClass nR_Law = some m.cls := hown
  have hev : xt_ev s H := k_evH hev0 hS
  unfold st_sensor at hst
  rcases hst with ⟨R1, R2, S0, S1, e1, e2, et, ea, hRel⟩ | ⟨S0, S1, e1, e2, et, hRel⟩ | ⟨S0, S1, e1, e2, et, hRel⟩
  ·
    refine lv_aload_n hx hb nd_Law_law_1108 rfl (lv_at hl 3 rfl) ?_
    refine lv_aload_n hx hb nd_Law_law_1109 rfl (lv_at hl 4 rfl) ?_
    refine lv_iload hx hb nd_Law_law_1110 (lv_at hl 0 rfl) ?_
    refine lv_iconst (v := 1) hx hb nd_Law_law_1112 (by decide) ?_
    refine lv_iadd hx hb nd_Law_law_1113 ?_
    refine k_sld (n := n) (j := 1) hx hb hX hbl hbA hS (k_sidx rfl) (by omega) hL nd_Law_law_1114 ?_
    refine lv_aload_n hx hb nd_Law_law_1115 rfl (lv_at hl 4 rfl) ?_
    refine lv_iload hx hb nd_Law_law_1116 (lv_at hl 0 rfl) ?_
    refine lv_iconst (v := 2) hx hb nd_Law_law_1118 (by decide) ?_
    refine lv_iadd hx hb nd_Law_law_1119 ?_
    refine k_sld (n := n) (j := 2) hx hb hX hbl hbA hS (k_sidx rfl) (by omega) hL nd_Law_law_1120 ?_
    refine k_uSWI (w2 := wA qc qm qo ca I J (va_up (va_up A 33 R1) 34 R2) L i a l9 o) (As := [.ref (qc 0), .int (xs (n + 1)), .int (xs (n + 2))]) (rest := []) (r := 0) hx hb hml hown hts (cn_Law_sensor l D ca (qc 0) (qc 1) (qc 19) (qc 34) (qc 47) (qc 48) (qc 58) (qc 59) (qc 60) (qc 61) (qc 62) (I 0) (I 15) (A 33) (A 34) (xs (n + 1)) (xs (n + 2)) (0 : Int32) R1 R2 e1 _) kc_Law_sensor ks_Law_sensor tt_604 ⟨by decide, by decide⟩ rfl rfl hP hK hD hS hA [0, 58, 59, 60] rfl (by decide +kernel) rfl rfl rfl hl.1 (Nat.le_of_ble_eq_true rfl) rfl nd_Law_law_1121 ⟨by show _ ≤ 601024; omega, by show _ ≤ 7293034; omega⟩ (fun H locs hP hD hS => ?_)
    refine W.widen (k := 400 + n) (n := 20000 + 6 * n) (by omega) (by omega) ?_
    refine lv_istore (lv' := [(5, .int 0), (4, .int (nI n)), (3, .ref qo), (2, .ref (qm 0)), (1, .ref (qc 0)), (0, .ref b)]) hx hb nd_Law_law_1124 hl (by decide) rfl (fun ls hl => ?_)
    refine lv_aload_n hx hb nd_Law_law_1126 rfl (lv_at hl 3 rfl) ?_
    refine lv_aload_n hx hb nd_Law_law_1127 rfl (lv_at hl 5 rfl) ?_
    refine lv_iload hx hb nd_Law_law_1128 (lv_at hl 1 rfl) ?_
    refine lv_iconst (v := 1) hx hb nd_Law_law_1130 (by decide) ?_
    refine lv_iadd hx hb nd_Law_law_1131 ?_
    refine k_sld (n := n) (j := 1) hx hb hX hbl hbA hS (k_sidx rfl) (by omega) hL nd_Law_law_1132 ?_
    refine lv_aload_n hx hb nd_Law_law_1133 rfl (lv_at hl 5 rfl) ?_
    refine lv_iload hx hb nd_Law_law_1134 (lv_at hl 1 rfl) ?_
    refine lv_iconst (v := 2) hx hb nd_Law_law_1136 (by decide) ?_
    refine lv_iadd hx hb nd_Law_law_1137 ?_
    refine k_sld (n := n) (j := 2) hx hb hX hbl hbA hS (k_sidx rfl) (by omega) hL nd_Law_law_1138 ?_
    refine k_uVV (w2 := wA qc qm qo ca I J (va_up (va_up A 33 R1) 34 R2) L (va_up i 0 S0) (va_up a 17 S1) l9 o) (As := [.int (xs (n + 1)), .int (xs (n + 2))]) (rest := []) hx hb hml hown hts (cn_Model_sensor l D ca (qm 0) (qm 1) (qm 2) (qm 3) (qm 4) (qm 5) (qm 6) (qm 7) (qm 8) (qm 9) (qm 10) (qm 11) (qm 12) (qm 13) (qm 14) (qm 15) (qm 16) (qm 17) (qm 18) (qm 19) (qm 20) (qm 21) (qm 22) (qm 23) (qm 24) (i 0) (i 1) (i 2) (i 3) (i 4) (i 5) (i 6) (i 7) (a 17) (xs (n + 1)) (xs (n + 2)) S0 S1 e2 _) kc_Model_sensor kv_Model_sensor tt_968 ⟨by decide, by decide⟩ rfl rfl hP hK hD hS hA [63, 85] rfl (by decide +kernel) rfl rfl 0 rfl rfl rfl rfl hl.1 (Nat.le_of_ble_eq_true rfl) rfl nd_Law_law_1139 ⟨by show _ ≤ 601024; omega, by show _ ≤ 7293034; omega⟩ (fun H locs hP hD hS => ?_)
    refine lv_aload_n hx hb nd_Law_law_1142 rfl (lv_at hl 3 rfl) ?_
    refine k_rVI (As := []) (rest := []) (r := S0) hx hb hml hown hts (cn_Model_thrown l D ca (qm 0) (qm 1) (qm 2) (qm 3) (qm 4) (qm 5) (qm 6) (qm 7) (qm 8) (qm 9) (qm 10) (qm 11) (qm 12) (qm 13) (qm 14) (qm 15) (qm 16) (qm 17) (qm 18) (qm 19) (qm 20) (qm 21) (qm 22) (qm 23) (qm 24) ((va_up i 0 S0) 0) ((va_up i 0 S0) 1) ((va_up i 0 S0) 2) ((va_up i 0 S0) 3) ((va_up i 0 S0) 4) ((va_up i 0 S0) 5) ((va_up i 0 S0) 6) ((va_up i 0 S0) 7) S0 rfl) kc_Model_thrown kv_Model_thrown tt_820 ⟨by decide, by decide⟩ rfl rfl hP hK [63] rfl 0 rfl rfl rfl rfl hl.1 (Nat.le_of_ble_eq_true rfl) rfl nd_Law_law_1143 ⟨by show _ ≤ 601024; omega, by show _ ≤ 7293034; omega⟩ ?_
    refine lv_iload hx hb nd_Law_law_1146 (lv_at hl 0 rfl) ?_
    refine lv_icmp_eq (tgt := 1153) hx hb nd_Law_law_1148 (by decide) (fun c1 => ?_) (fun c1 => ?_)
    rotate_left
    · exact absurd et c1
    refine lv_goto (tgt := 1452) hx hb nd_Law_law_1153 (by decide) ?_
    refine W.widen (k := 400 + n + 1) (n := 20000 + 6 * n + 6) (by omega) (by omega) ?_
    exact hnext _ _ _ _ _ _ _ _ _ _ _ hRel hP hD hS (lv_sub hl [1, 2, 3, 4, 5] rfl)
  ·
    refine lv_aload_n hx hb nd_Law_law_1108 rfl (lv_at hl 3 rfl) ?_
    refine lv_aload_n hx hb nd_Law_law_1109 rfl (lv_at hl 4 rfl) ?_
    refine lv_iload hx hb nd_Law_law_1110 (lv_at hl 0 rfl) ?_
    refine lv_iconst (v := 1) hx hb nd_Law_law_1112 (by decide) ?_
    refine lv_iadd hx hb nd_Law_law_1113 ?_
    refine k_sld (n := n) (j := 1) hx hb hX hbl hbA hS (k_sidx rfl) (by omega) hL nd_Law_law_1114 ?_
    refine lv_aload_n hx hb nd_Law_law_1115 rfl (lv_at hl 4 rfl) ?_
    refine lv_iload hx hb nd_Law_law_1116 (lv_at hl 0 rfl) ?_
    refine lv_iconst (v := 2) hx hb nd_Law_law_1118 (by decide) ?_
    refine lv_iadd hx hb nd_Law_law_1119 ?_
    refine k_sld (n := n) (j := 2) hx hb hX hbl hbA hS (k_sidx rfl) (by omega) hL nd_Law_law_1120 ?_
    refine k_uSWX (w2 := wA qc qm qo ca I J A L i a l9 o) (As := [.ref (qc 0), .int (xs (n + 1)), .int (xs (n + 2))]) (rest := []) (r := 1) hx hb hml hown hts (hx_Law_sensor_1 l hlt D ca (qc 0) (qc 1) (qc 19) (qc 34) (qc 47) (qc 48) (qc 58) (qc 59) (qc 60) (qc 61) (qc 62) (I 0) (I 15) (A 33) (A 34) (xs (n + 1)) (xs (n + 2)) e1 _) kc_Law_sensor ks_Law_sensor tt_604 ⟨by decide, by decide⟩ rfl rfl hP hK hD hS hA hev [0, 58, 59, 60] rfl (by decide +kernel) rfl rfl rfl hl.1 (Nat.le_of_ble_eq_true rfl) rfl nd_Law_law_1121 ⟨by show _ ≤ 601024; omega, by show _ ≤ 7293034; omega⟩ (fun H locs hP hD hS => ?_)
    refine W.widen (k := 400 + n + 1) (n := 20000 + 6 * n + 6) (by omega) (by omega) ?_
    refine lv_istore (lv' := [(5, .int 1), (4, .int (nI n)), (3, .ref qo), (2, .ref (qm 0)), (1, .ref (qc 0)), (0, .ref b)]) hx hb nd_Law_law_1124 hl (by decide) rfl (fun ls hl => ?_)
    refine lv_aload_n hx hb nd_Law_law_1126 rfl (lv_at hl 3 rfl) ?_
    refine lv_aload_n hx hb nd_Law_law_1127 rfl (lv_at hl 5 rfl) ?_
    refine lv_iload hx hb nd_Law_law_1128 (lv_at hl 1 rfl) ?_
    refine lv_iconst (v := 1) hx hb nd_Law_law_1130 (by decide) ?_
    refine lv_iadd hx hb nd_Law_law_1131 ?_
    refine k_sld (n := n) (j := 1) hx hb hX hbl hbA hS (k_sidx rfl) (by omega) hL nd_Law_law_1132 ?_
    refine lv_aload_n hx hb nd_Law_law_1133 rfl (lv_at hl 5 rfl) ?_
    refine lv_iload hx hb nd_Law_law_1134 (lv_at hl 1 rfl) ?_
    refine lv_iconst (v := 2) hx hb nd_Law_law_1136 (by decide) ?_
    refine lv_iadd hx hb nd_Law_law_1137 ?_
    refine k_sld (n := n) (j := 2) hx hb hX hbl hbA hS (k_sidx rfl) (by omega) hL nd_Law_law_1138 ?_
    refine k_uVV (w2 := wA qc qm qo ca I J A L (va_up i 0 S0) (va_up a 17 S1) l9 o) (As := [.int (xs (n + 1)), .int (xs (n + 2))]) (rest := []) hx hb hml hown hts (cn_Model_sensor l D ca (qm 0) (qm 1) (qm 2) (qm 3) (qm 4) (qm 5) (qm 6) (qm 7) (qm 8) (qm 9) (qm 10) (qm 11) (qm 12) (qm 13) (qm 14) (qm 15) (qm 16) (qm 17) (qm 18) (qm 19) (qm 20) (qm 21) (qm 22) (qm 23) (qm 24) (i 0) (i 1) (i 2) (i 3) (i 4) (i 5) (i 6) (i 7) (a 17) (xs (n + 1)) (xs (n + 2)) S0 S1 e2 _) kc_Model_sensor kv_Model_sensor tt_968 ⟨by decide, by decide⟩ rfl rfl hP hK hD hS hA [63, 85] rfl (by decide +kernel) rfl rfl 0 rfl rfl rfl rfl hl.1 (Nat.le_of_ble_eq_true rfl) rfl nd_Law_law_1139 ⟨by show _ ≤ 601024; omega, by show _ ≤ 7293034; omega⟩ (fun H locs hP hD hS => ?_)
    refine lv_aload_n hx hb nd_Law_law_1142 rfl (lv_at hl 3 rfl) ?_
    refine k_rVI (As := []) (rest := []) (r := S0) hx hb hml hown hts (cn_Model_thrown l D ca (qm 0) (qm 1) (qm 2) (qm 3) (qm 4) (qm 5) (qm 6) (qm 7) (qm 8) (qm 9) (qm 10) (qm 11) (qm 12) (qm 13) (qm 14) (qm 15) (qm 16) (qm 17) (qm 18) (qm 19) (qm 20) (qm 21) (qm 22) (qm 23) (qm 24) ((va_up i 0 S0) 0) ((va_up i 0 S0) 1) ((va_up i 0 S0) 2) ((va_up i 0 S0) 3) ((va_up i 0 S0) 4) ((va_up i 0 S0) 5) ((va_up i 0 S0) 6) ((va_up i 0 S0) 7) S0 rfl) kc_Model_thrown kv_Model_thrown tt_820 ⟨by decide, by decide⟩ rfl rfl hP hK [63] rfl 0 rfl rfl rfl rfl hl.1 (Nat.le_of_ble_eq_true rfl) rfl nd_Law_law_1143 ⟨by show _ ≤ 601024; omega, by show _ ≤ 7293034; omega⟩ ?_
    refine lv_iload hx hb nd_Law_law_1146 (lv_at hl 0 rfl) ?_
    refine lv_icmp_eq (tgt := 1153) hx hb nd_Law_law_1148 (by decide) (fun c2 => ?_) (fun c2 => ?_)
    rotate_left
    · exact absurd et c2
    refine lv_goto (tgt := 1452) hx hb nd_Law_law_1153 (by decide) ?_
    refine W.widen (k := 400 + n + 1) (n := 20000 + 6 * n + 6) (by omega) (by omega) ?_
    exact hnext _ _ _ _ _ _ _ _ _ _ _ hRel hP hD hS (lv_sub hl [1, 2, 3, 4, 5] rfl)
  ·
    refine lv_aload_n hx hb nd_Law_law_1108 rfl (lv_at hl 3 rfl) ?_
    refine lv_aload_n hx hb nd_Law_law_1109 rfl (lv_at hl 4 rfl) ?_
    refine lv_iload hx hb nd_Law_law_1110 (lv_at hl 0 rfl) ?_
    refine lv_iconst (v := 1) hx hb nd_Law_law_1112 (by decide) ?_
    refine lv_iadd hx hb nd_Law_law_1113 ?_
    refine k_sld (n := n) (j := 1) hx hb hX hbl hbA hS (k_sidx rfl) (by omega) hL nd_Law_law_1114 ?_
    refine lv_aload_n hx hb nd_Law_law_1115 rfl (lv_at hl 4 rfl) ?_
    refine lv_iload hx hb nd_Law_law_1116 (lv_at hl 0 rfl) ?_
    refine lv_iconst (v := 2) hx hb nd_Law_law_1118 (by decide) ?_
    refine lv_iadd hx hb nd_Law_law_1119 ?_
    refine k_sld (n := n) (j := 2) hx hb hX hbl hbA hS (k_sidx rfl) (by omega) hL nd_Law_law_1120 ?_
    refine k_uSWX (w2 := wA qc qm qo ca I J A L i a l9 o) (As := [.ref (qc 0), .int (xs (n + 1)), .int (xs (n + 2))]) (rest := []) (r := 2) hx hb hml hown hts (hx_Law_sensor_3 l hlt D ca (qc 0) (qc 1) (qc 19) (qc 34) (qc 47) (qc 48) (qc 58) (qc 59) (qc 60) (qc 61) (qc 62) (I 0) (I 15) (A 33) (A 34) (xs (n + 1)) (xs (n + 2)) e1 _) kc_Law_sensor ks_Law_sensor tt_604 ⟨by decide, by decide⟩ rfl rfl hP hK hD hS hA hev [0, 58, 59, 60] rfl (by decide +kernel) rfl rfl rfl hl.1 (Nat.le_of_ble_eq_true rfl) rfl nd_Law_law_1121 ⟨by show _ ≤ 601024; omega, by show _ ≤ 7293034; omega⟩ (fun H locs hP hD hS => ?_)
    refine W.widen (k := 400 + n + 1) (n := 20000 + 6 * n + 6) (by omega) (by omega) ?_
    refine lv_istore (lv' := [(5, .int 2), (4, .int (nI n)), (3, .ref qo), (2, .ref (qm 0)), (1, .ref (qc 0)), (0, .ref b)]) hx hb nd_Law_law_1124 hl (by decide) rfl (fun ls hl => ?_)
    refine lv_aload_n hx hb nd_Law_law_1126 rfl (lv_at hl 3 rfl) ?_
    refine lv_aload_n hx hb nd_Law_law_1127 rfl (lv_at hl 5 rfl) ?_
    refine lv_iload hx hb nd_Law_law_1128 (lv_at hl 1 rfl) ?_
    refine lv_iconst (v := 1) hx hb nd_Law_law_1130 (by decide) ?_
    refine lv_iadd hx hb nd_Law_law_1131 ?_
    refine k_sld (n := n) (j := 1) hx hb hX hbl hbA hS (k_sidx rfl) (by omega) hL nd_Law_law_1132 ?_
    refine lv_aload_n hx hb nd_Law_law_1133 rfl (lv_at hl 5 rfl) ?_
    refine lv_iload hx hb nd_Law_law_1134 (lv_at hl 1 rfl) ?_
    refine lv_iconst (v := 2) hx hb nd_Law_law_1136 (by decide) ?_
    refine lv_iadd hx hb nd_Law_law_1137 ?_
    refine k_sld (n := n) (j := 2) hx hb hX hbl hbA hS (k_sidx rfl) (by omega) hL nd_Law_law_1138 ?_
    refine k_uVV (w2 := wA qc qm qo ca I J A L (va_up i 0 S0) (va_up a 17 S1) l9 o) (As := [.int (xs (n + 1)), .int (xs (n + 2))]) (rest := []) hx hb hml hown hts (cn_Model_sensor l D ca (qm 0) (qm 1) (qm 2) (qm 3) (qm 4) (qm 5) (qm 6) (qm 7) (qm 8) (qm 9) (qm 10) (qm 11) (qm 12) (qm 13) (qm 14) (qm 15) (qm 16) (qm 17) (qm 18) (qm 19) (qm 20) (qm 21) (qm 22) (qm 23) (qm 24) (i 0) (i 1) (i 2) (i 3) (i 4) (i 5) (i 6) (i 7) (a 17) (xs (n + 1)) (xs (n + 2)) S0 S1 e2 _) kc_Model_sensor kv_Model_sensor tt_968 ⟨by decide, by decide⟩ rfl rfl hP hK hD hS hA [63, 85] rfl (by decide +kernel) rfl rfl 0 rfl rfl rfl rfl hl.1 (Nat.le_of_ble_eq_true rfl) rfl nd_Law_law_1139 ⟨by show _ ≤ 601024; omega, by show _ ≤ 7293034; omega⟩ (fun H locs hP hD hS => ?_)
    refine lv_aload_n hx hb nd_Law_law_1142 rfl (lv_at hl 3 rfl) ?_
    refine k_rVI (As := []) (rest := []) (r := S0) hx hb hml hown hts (cn_Model_thrown l D ca (qm 0) (qm 1) (qm 2) (qm 3) (qm 4) (qm 5) (qm 6) (qm 7) (qm 8) (qm 9) (qm 10) (qm 11) (qm 12) (qm 13) (qm 14) (qm 15) (qm 16) (qm 17) (qm 18) (qm 19) (qm 20) (qm 21) (qm 22) (qm 23) (qm 24) ((va_up i 0 S0) 0) ((va_up i 0 S0) 1) ((va_up i 0 S0) 2) ((va_up i 0 S0) 3) ((va_up i 0 S0) 4) ((va_up i 0 S0) 5) ((va_up i 0 S0) 6) ((va_up i 0 S0) 7) S0 rfl) kc_Model_thrown kv_Model_thrown tt_820 ⟨by decide, by decide⟩ rfl rfl hP hK [63] rfl 0 rfl rfl rfl rfl hl.1 (Nat.le_of_ble_eq_true rfl) rfl nd_Law_law_1143 ⟨by show _ ≤ 601024; omega, by show _ ≤ 7293034; omega⟩ ?_
    refine lv_iload hx hb nd_Law_law_1146 (lv_at hl 0 rfl) ?_
    refine lv_icmp_eq (tgt := 1153) hx hb nd_Law_law_1148 (by decide) (fun c3 => ?_) (fun c3 => ?_)
    rotate_left
    · exact absurd et c3
    refine lv_goto (tgt := 1452) hx hb nd_Law_law_1153 (by decide) ?_
    refine W.widen (k := 400 + n + 1) (n := 20000 + 6 * n + 6) (by omega) (by omega) ?_
    exact hnext _ _ _ _ _ _ _ _ _ _ _ hRel hP hD hS (lv_sub hl [1, 2, 3, 4, 5] rfl)
