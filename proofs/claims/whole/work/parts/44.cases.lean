set_option maxHeartbeats 8000000 in
set_option maxRecDepth 100000 in
theorem lc_risk {p : Program} {l : Launch} {e : Env} {s : State} {m : MethodId} {below : List Frame} {meth : Method} {c : Code} {D : va_G} {ca : Nat → ClassId} {b Ls : Nat} {xs : Nat → Int32} (C0 : lw_At p s m meth c b Ls xs) (hL : Ls ≤ 2560) (hlt : l.stackTraces = false) (hev0 : xt_ev s s.heap) (hK : va_K D vwCl (tyG ca) s) {Rel : (Nat → Int32) → (Nat → Int64) → (Nat → Nat → Int32) → (Nat → Nat → Int64) → (Nat → Int32) → (Nat → Nat → Int32) → (Nat → Nat → Int64) → Prop} {qc qm : Nat → Nat} {qo : Nat} {I : Nat → Int32} {J : Nat → Int64} {A : Nat → Nat → Int32} {L : Nat → Nat → Int64} {i : Nat → Int32} {a : Nat → Nat → Int32} {l9 : Nat → Nat → Int64} {o : Nat → Int64} {n : Nat} (hn : n + 5 ≤ Ls) {H : Heap} {locs : List Loc} {ls : Array Slot} (hP : va_P D vwCl (wA qc qm qo ca I J A L i a l9 o) H) (hD : va_D (fun q : Nat => s.heap.size ≤ q) (wA qc qm qo ca I J A L i a l9 o)) (hS : va_S (fun q : Nat => s.heap.size ≤ q) s.heap H locs) (hl : lv_has ls 8 [(4, .int (nI n)), (3, .ref qo), (2, .ref (qm 0)), (1, .ref (qc 0)), (0, .ref b)]) (hst : st_risk Rel I J A L i a l9 o (xs (n + 1)) (xs (n + 2)) (xs (n + 3))) (hnext : ∀ (I : Nat → Int32) (J : Nat → Int64) (A : Nat → Nat → Int32) (L : Nat → Nat → Int64) (i : Nat → Int32) (a : Nat → Nat → Int32) (l9 : Nat → Nat → Int64) (o : Nat → Int64) (H : Heap) (locs : List Loc) (ls : Array Slot), Rel I J A L i a l9 → va_P D vwCl (wA qc qm qo ca I J A L i a l9 o) H → va_D (fun q : Nat => s.heap.size ≤ q) (wA qc qm qo ca I J A L i a l9 o) → va_S (fun q : Nat => s.heap.size ≤ q) s.heap H locs → lv_has ls 8 [(4, .int (nI n)), (3, .ref qo), (2, .ref (qm 0)), (1, .ref (qc 0)), (0, .ref b)] → W p l e room_1 s m #[Value.ref b] below meth c H locs (400 + n + 1) (20000 + 6 * n + 6) (lw_Z below #[Value.ref b] s) (F0 m 1452 ls [])) : W p l e room_1 s m #[Value.ref b] below meth c H locs (400 + n) (20000 + 6 * n) (lw_Z below #[Value.ref b] s) (F0 m 824 ls []) := by
  obtain ⟨hx, hb, hr, hml, hown, hts0, hX, hbl, hlocks, hgv⟩ := C0
  have hts : ∀ w ∈ TT, w.before #[Value.ref b] s = true := fun w h => hts0 w (List.mem_filter.mp h).1
  have hA : ∀ q : Nat, s.heap.size ≤ q → (fun q : Nat => s.heap.size ≤ q) q := fun _ h => h
  have hbA : ¬ (fun q : Nat => s.heap.size ≤ q) b := Nat.not_le.mpr hbl
  have hown : s.vm.findClass nR_Law = some m.cls := hown
  have hev : xt_ev s H := k_evH hev0 hS
  unfold st_risk at hst
  rcases hst with ⟨R1, R2, R3, R4, R5, R6, R7, R8, R9, R10, R11, R12, R13, S0, S1, S2, S3, S4, e1, e2, et, ea, hRel⟩ | ⟨S0, S1, S2, S3, S4, e1, e2, et, hRel⟩ | ⟨S0, S1, S2, S3, S4, e1, e2, et, hRel⟩ | ⟨S0, S1, S2, S3, S4, e1, e2, et, hRel⟩
  ·
    refine lv_aload_n hx hb nd_Law_law_824 rfl (lv_at hl 3 rfl) ?_
    refine lv_aload_n hx hb nd_Law_law_825 rfl (lv_at hl 4 rfl) ?_
    refine lv_iload hx hb nd_Law_law_826 (lv_at hl 0 rfl) ?_
    refine lv_iconst (v := 1) hx hb nd_Law_law_828 (by decide) ?_
    refine lv_iadd hx hb nd_Law_law_829 ?_
    refine k_sld (n := n) (j := 1) hx hb hX hbl hbA hS (k_sidx rfl) (by omega) hL nd_Law_law_830 ?_
    refine lv_aload_n hx hb nd_Law_law_831 rfl (lv_at hl 4 rfl) ?_
    refine lv_iload hx hb nd_Law_law_832 (lv_at hl 0 rfl) ?_
    refine lv_iconst (v := 2) hx hb nd_Law_law_834 (by decide) ?_
    refine lv_iadd hx hb nd_Law_law_835 ?_
    refine k_sld (n := n) (j := 2) hx hb hX hbl hbA hS (k_sidx rfl) (by omega) hL nd_Law_law_836 ?_
    refine lv_aload_n hx hb nd_Law_law_837 rfl (lv_at hl 4 rfl) ?_
    refine lv_iload hx hb nd_Law_law_838 (lv_at hl 0 rfl) ?_
    refine lv_iconst (v := 3) hx hb nd_Law_law_840 (by decide) ?_
    refine lv_iadd hx hb nd_Law_law_841 ?_
    refine k_sld (n := n) (j := 3) hx hb hX hbl hbA hS (k_sidx rfl) (by omega) hL nd_Law_law_842 ?_
    refine lv_aload_n hx hb nd_Law_law_843 rfl (lv_at hl 1 rfl) ?_
    refine k_mSWI (w2 := wA qc qm qo ca (va_up (va_up (va_up (va_up I 10 R3) 11 R6) 12 R9) 13 R12) J (va_up (va_up (va_up (va_up (va_up (va_up (va_up (va_up A 16 R1) 17 R2) 18 R4) 19 R5) 20 R7) 21 R8) 22 R10) 23 R11) L i a l9 R13) (As := [.ref (qc 0), .int (xs (n + 1)), .int (xs (n + 2)), .int (xs (n + 3)), .ref qo]) (rest := []) (r := 0) hx hb hml hown hts (cn_Law_risk l D ca (qc 0) (qc 1) (qc 19) (qc 34) (qc 47) (qc 48) (qc 58) (qc 35) (qc 38) (qc 41) (qc 44) (qc 36) (qc 37) (qc 39) (qc 40) (qc 42) (qc 43) (qc 45) (qc 46) qo (I 0) (I 10) (A 16) (A 17) (I 11) (A 18) (A 19) (I 12) (A 20) (A 21) (I 13) (A 22) (A 23) o (xs (n + 1)) (xs (n + 2)) (xs (n + 3)) (0 : Int32) R1 R2 R3 R4 R5 R6 R7 R8 R9 R10 R11 R12 R13 e1 _) kc_Law_risk ks_Law_risk tt_571 ⟨by decide, by decide⟩ rfl rfl hP hK hD hS hA [0, 34, 35, 36, 37, 38, 39, 40, 41, 42, 43, 44, 45, 46, 88] rfl (by decide +kernel) rfl [some 0, none, none, none, none, none, none, none, none, none, none, none, none, none, none, none, none, none, none, none, none, none, none, none, none, none, none, none, none, none, none, none, none, none, some 1, some 2, some 3, some 4, some 5, some 6, some 7, some 8, some 9, some 10, some 11, some 12, some 13, none, none, none, none, none, none, none, none, none, none, none, none, none, none, none, none, none, none, none, none, none, none, none, none, none, none, none, none, none, none, none, none, none, none, none, none, none, none, none, none, none, some 14] (by decide +kernel) rfl rfl hl.1 (Nat.le_of_ble_eq_true rfl) rfl nd_Law_law_844 ⟨by show _ ≤ 601024; omega, by show _ ≤ 7293034; omega⟩ (fun H locs hP hD hS => ?_)
    refine W.widen (k := 400 + n) (n := 20000 + 6 * n) (by omega) (by omega) ?_
    refine lv_istore (lv' := [(5, .int 0), (4, .int (nI n)), (3, .ref qo), (2, .ref (qm 0)), (1, .ref (qc 0)), (0, .ref b)]) hx hb nd_Law_law_847 hl (by decide) rfl (fun ls hl => ?_)
    refine lv_aload_n hx hb nd_Law_law_849 rfl (lv_at hl 3 rfl) ?_
    refine lv_aload_n hx hb nd_Law_law_850 rfl (lv_at hl 5 rfl) ?_
    refine lv_iload hx hb nd_Law_law_851 (lv_at hl 1 rfl) ?_
    refine lv_iconst (v := 1) hx hb nd_Law_law_853 (by decide) ?_
    refine lv_iadd hx hb nd_Law_law_854 ?_
    refine k_sld (n := n) (j := 1) hx hb hX hbl hbA hS (k_sidx rfl) (by omega) hL nd_Law_law_855 ?_
    refine lv_aload_n hx hb nd_Law_law_856 rfl (lv_at hl 5 rfl) ?_
    refine lv_iload hx hb nd_Law_law_857 (lv_at hl 1 rfl) ?_
    refine lv_iconst (v := 2) hx hb nd_Law_law_859 (by decide) ?_
    refine lv_iadd hx hb nd_Law_law_860 ?_
    refine k_sld (n := n) (j := 2) hx hb hX hbl hbA hS (k_sidx rfl) (by omega) hL nd_Law_law_861 ?_
    refine lv_aload_n hx hb nd_Law_law_862 rfl (lv_at hl 5 rfl) ?_
    refine lv_iload hx hb nd_Law_law_863 (lv_at hl 1 rfl) ?_
    refine lv_iconst (v := 3) hx hb nd_Law_law_865 (by decide) ?_
    refine lv_iadd hx hb nd_Law_law_866 ?_
    refine k_sld (n := n) (j := 3) hx hb hX hbl hbA hS (k_sidx rfl) (by omega) hL nd_Law_law_867 ?_
    refine k_mVI (w2 := wA qc qm qo ca (va_up (va_up (va_up (va_up I 10 R3) 11 R6) 12 R9) 13 R12) J (va_up (va_up (va_up (va_up (va_up (va_up (va_up (va_up A 16 R1) 17 R2) 18 R4) 19 R5) 20 R7) 21 R8) 22 R10) 23 R11) L (va_up i 0 S1) (va_up (va_up (va_up a 9 S2) 10 S3) 8 S4) l9 R13) (As := [.int (xs (n + 1)), .int (xs (n + 2)), .int (xs (n + 3))]) (rest := []) (r := S0) hx hb hml hown hts (cn_Model_risk l D ca (qm 0) (qm 1) (qm 2) (qm 3) (qm 4) (qm 5) (qm 6) (qm 7) (qm 8) (qm 9) (qm 10) (qm 11) (qm 12) (qm 13) (qm 14) (qm 15) (qm 16) (qm 17) (qm 18) (qm 19) (qm 20) (qm 21) (qm 22) (qm 23) (qm 24) (i 0) (i 1) (i 2) (i 3) (i 4) (i 5) (i 6) (i 7) (a 8) (a 9) (a 10) (xs (n + 1)) (xs (n + 2)) (xs (n + 3)) S0 S1 S2 S3 S4 e2 _) kc_Model_risk kv_Model_risk tt_952 ⟨by decide, by decide⟩ rfl rfl hP hK hD hS hA [63, 76, 77, 78] rfl (by decide +kernel) rfl [none, none, none, none, none, none, none, none, none, none, none, none, none, none, none, none, none, none, none, none, none, none, none, none, none, none, none, none, none, none, none, none, none, none, none, none, none, none, none, none, none, none, none, none, none, none, none, none, none, none, none, none, none, none, none, none, none, none, none, none, none, none, none, some 0, none, none, none, none, none, none, none, none, none, none, none, none, some 1, some 2, some 3, none, none, none, none, none, none, none, none, none, none] (by decide +kernel) rfl 0 rfl rfl rfl rfl hl.1 (Nat.le_of_ble_eq_true rfl) rfl nd_Law_law_868 ⟨by show _ ≤ 601024; omega, by show _ ≤ 7293034; omega⟩ (fun H locs hP hD hS => ?_)
    refine lv_istore (lv' := [(6, .int S0), (5, .int 0), (4, .int (nI n)), (3, .ref qo), (2, .ref (qm 0)), (1, .ref (qc 0)), (0, .ref b)]) hx hb nd_Law_law_871 hl (by decide) rfl (fun ls hl => ?_)
    refine lv_aload_n hx hb nd_Law_law_873 rfl (lv_at hl 4 rfl) ?_
    refine k_rVI (As := []) (rest := []) (r := S1) hx hb hml hown hts (cn_Model_thrown l D ca (qm 0) (qm 1) (qm 2) (qm 3) (qm 4) (qm 5) (qm 6) (qm 7) (qm 8) (qm 9) (qm 10) (qm 11) (qm 12) (qm 13) (qm 14) (qm 15) (qm 16) (qm 17) (qm 18) (qm 19) (qm 20) (qm 21) (qm 22) (qm 23) (qm 24) ((va_up i 0 S1) 0) ((va_up i 0 S1) 1) ((va_up i 0 S1) 2) ((va_up i 0 S1) 3) ((va_up i 0 S1) 4) ((va_up i 0 S1) 5) ((va_up i 0 S1) 6) ((va_up i 0 S1) 7) S1 rfl) kc_Model_thrown kv_Model_thrown tt_820 ⟨by decide, by decide⟩ rfl rfl hP hK [63] rfl 0 rfl rfl rfl rfl hl.1 (Nat.le_of_ble_eq_true rfl) rfl nd_Law_law_874 ⟨by show _ ≤ 601024; omega, by show _ ≤ 7293034; omega⟩ ?_
    refine lv_iload hx hb nd_Law_law_877 (lv_at hl 1 rfl) ?_
    refine lv_icmp_eq (tgt := 884) hx hb nd_Law_law_879 (by decide) (fun c1 => ?_) (fun c1 => ?_)
    rotate_left
    · exact absurd et c1
    refine lv_iload hx hb nd_Law_law_884 (lv_at hl 1 rfl) ?_
    refine lv_if_ne (tgt := 901) hx hb nd_Law_law_886 (by decide) (fun c2 => ?_) (fun c2 => ?_)
    · exact absurd rfl c2
    refine lv_aload_n hx hb nd_Law_law_889 rfl (lv_at hl 3 rfl) ?_
    refine lv_iconst (v := 0) hx hb nd_Law_law_890 (by decide) ?_
    refine va_lald hx hb hK hP 88 1 rfl rfl (by unfold vp_in; decide) nd_Law_law_891 ?_
    refine lv_iload hx hb nd_Law_law_892 (lv_at hl 0 rfl) ?_
    refine lv_i2l hx hb nd_Law_law_894 rfl ?_
    refine W.lcmp hx hb nd_Law_law_895 ?_
    refine lv_if_eq (tgt := 901) hx hb nd_Law_law_896 (by decide) (fun c3 => ?_) (fun c3 => ?_)
    rotate_left
    · exact absurd ea c3
    refine lv_goto (tgt := 1452) hx hb nd_Law_law_901 (by decide) ?_
    refine W.widen (k := 400 + n + 1) (n := 20000 + 6 * n + 6) (by omega) (by omega) ?_
    exact hnext _ _ _ _ _ _ _ _ _ _ _ hRel hP hD hS (lv_sub hl [2, 3, 4, 5, 6] rfl)
  ·
    refine lv_aload_n hx hb nd_Law_law_824 rfl (lv_at hl 3 rfl) ?_
    refine lv_aload_n hx hb nd_Law_law_825 rfl (lv_at hl 4 rfl) ?_
    refine lv_iload hx hb nd_Law_law_826 (lv_at hl 0 rfl) ?_
    refine lv_iconst (v := 1) hx hb nd_Law_law_828 (by decide) ?_
    refine lv_iadd hx hb nd_Law_law_829 ?_
    refine k_sld (n := n) (j := 1) hx hb hX hbl hbA hS (k_sidx rfl) (by omega) hL nd_Law_law_830 ?_
    refine lv_aload_n hx hb nd_Law_law_831 rfl (lv_at hl 4 rfl) ?_
    refine lv_iload hx hb nd_Law_law_832 (lv_at hl 0 rfl) ?_
    refine lv_iconst (v := 2) hx hb nd_Law_law_834 (by decide) ?_
    refine lv_iadd hx hb nd_Law_law_835 ?_
    refine k_sld (n := n) (j := 2) hx hb hX hbl hbA hS (k_sidx rfl) (by omega) hL nd_Law_law_836 ?_
    refine lv_aload_n hx hb nd_Law_law_837 rfl (lv_at hl 4 rfl) ?_
    refine lv_iload hx hb nd_Law_law_838 (lv_at hl 0 rfl) ?_
    refine lv_iconst (v := 3) hx hb nd_Law_law_840 (by decide) ?_
    refine lv_iadd hx hb nd_Law_law_841 ?_
    refine k_sld (n := n) (j := 3) hx hb hX hbl hbA hS (k_sidx rfl) (by omega) hL nd_Law_law_842 ?_
    refine lv_aload_n hx hb nd_Law_law_843 rfl (lv_at hl 1 rfl) ?_
    refine k_mSWX (w2 := wA qc qm qo ca I J A L i a l9 o) (As := [.ref (qc 0), .int (xs (n + 1)), .int (xs (n + 2)), .int (xs (n + 3)), .ref qo]) (rest := []) (r := 1) hx hb hml hown hts (hx_Law_risk_1 l hlt D ca (qc 0) (qc 1) (qc 19) (qc 34) (qc 47) (qc 48) (qc 58) (qc 35) (qc 38) (qc 41) (qc 44) (qc 36) (qc 37) (qc 39) (qc 40) (qc 42) (qc 43) (qc 45) (qc 46) qo (I 0) (I 10) (A 16) (A 17) (I 11) (A 18) (A 19) (I 12) (A 20) (A 21) (I 13) (A 22) (A 23) o (xs (n + 1)) (xs (n + 2)) (xs (n + 3)) e1 _) kc_Law_risk ks_Law_risk tt_571 ⟨by decide, by decide⟩ rfl rfl hP hK hD hS hA hev [0, 34, 35, 36, 37, 38, 39, 40, 41, 42, 43, 44, 45, 46, 88] rfl (by decide +kernel) rfl [some 0, none, none, none, none, none, none, none, none, none, none, none, none, none, none, none, none, none, none, none, none, none, none, none, none, none, none, none, none, none, none, none, none, none, some 1, some 2, some 3, some 4, some 5, some 6, some 7, some 8, some 9, some 10, some 11, some 12, some 13, none, none, none, none, none, none, none, none, none, none, none, none, none, none, none, none, none, none, none, none, none, none, none, none, none, none, none, none, none, none, none, none, none, none, none, none, none, none, none, none, none, some 14] (by decide +kernel) rfl rfl hl.1 (Nat.le_of_ble_eq_true rfl) rfl nd_Law_law_844 ⟨by show _ ≤ 601024; omega, by show _ ≤ 7293034; omega⟩ (fun H locs hP hD hS => ?_)
    refine W.widen (k := 400 + n + 1) (n := 20000 + 6 * n + 6) (by omega) (by omega) ?_
    refine lv_istore (lv' := [(5, .int 1), (4, .int (nI n)), (3, .ref qo), (2, .ref (qm 0)), (1, .ref (qc 0)), (0, .ref b)]) hx hb nd_Law_law_847 hl (by decide) rfl (fun ls hl => ?_)
    refine lv_aload_n hx hb nd_Law_law_849 rfl (lv_at hl 3 rfl) ?_
    refine lv_aload_n hx hb nd_Law_law_850 rfl (lv_at hl 5 rfl) ?_
    refine lv_iload hx hb nd_Law_law_851 (lv_at hl 1 rfl) ?_
    refine lv_iconst (v := 1) hx hb nd_Law_law_853 (by decide) ?_
    refine lv_iadd hx hb nd_Law_law_854 ?_
    refine k_sld (n := n) (j := 1) hx hb hX hbl hbA hS (k_sidx rfl) (by omega) hL nd_Law_law_855 ?_
    refine lv_aload_n hx hb nd_Law_law_856 rfl (lv_at hl 5 rfl) ?_
    refine lv_iload hx hb nd_Law_law_857 (lv_at hl 1 rfl) ?_
    refine lv_iconst (v := 2) hx hb nd_Law_law_859 (by decide) ?_
    refine lv_iadd hx hb nd_Law_law_860 ?_
    refine k_sld (n := n) (j := 2) hx hb hX hbl hbA hS (k_sidx rfl) (by omega) hL nd_Law_law_861 ?_
    refine lv_aload_n hx hb nd_Law_law_862 rfl (lv_at hl 5 rfl) ?_
    refine lv_iload hx hb nd_Law_law_863 (lv_at hl 1 rfl) ?_
    refine lv_iconst (v := 3) hx hb nd_Law_law_865 (by decide) ?_
    refine lv_iadd hx hb nd_Law_law_866 ?_
    refine k_sld (n := n) (j := 3) hx hb hX hbl hbA hS (k_sidx rfl) (by omega) hL nd_Law_law_867 ?_
    refine k_mVI (w2 := wA qc qm qo ca I J A L (va_up i 0 S1) (va_up (va_up (va_up a 9 S2) 10 S3) 8 S4) l9 o) (As := [.int (xs (n + 1)), .int (xs (n + 2)), .int (xs (n + 3))]) (rest := []) (r := S0) hx hb hml hown hts (cn_Model_risk l D ca (qm 0) (qm 1) (qm 2) (qm 3) (qm 4) (qm 5) (qm 6) (qm 7) (qm 8) (qm 9) (qm 10) (qm 11) (qm 12) (qm 13) (qm 14) (qm 15) (qm 16) (qm 17) (qm 18) (qm 19) (qm 20) (qm 21) (qm 22) (qm 23) (qm 24) (i 0) (i 1) (i 2) (i 3) (i 4) (i 5) (i 6) (i 7) (a 8) (a 9) (a 10) (xs (n + 1)) (xs (n + 2)) (xs (n + 3)) S0 S1 S2 S3 S4 e2 _) kc_Model_risk kv_Model_risk tt_952 ⟨by decide, by decide⟩ rfl rfl hP hK hD hS hA [63, 76, 77, 78] rfl (by decide +kernel) rfl [none, none, none, none, none, none, none, none, none, none, none, none, none, none, none, none, none, none, none, none, none, none, none, none, none, none, none, none, none, none, none, none, none, none, none, none, none, none, none, none, none, none, none, none, none, none, none, none, none, none, none, none, none, none, none, none, none, none, none, none, none, none, none, some 0, none, none, none, none, none, none, none, none, none, none, none, none, some 1, some 2, some 3, none, none, none, none, none, none, none, none, none, none] (by decide +kernel) rfl 0 rfl rfl rfl rfl hl.1 (Nat.le_of_ble_eq_true rfl) rfl nd_Law_law_868 ⟨by show _ ≤ 601024; omega, by show _ ≤ 7293034; omega⟩ (fun H locs hP hD hS => ?_)
    refine lv_istore (lv' := [(6, .int S0), (5, .int 1), (4, .int (nI n)), (3, .ref qo), (2, .ref (qm 0)), (1, .ref (qc 0)), (0, .ref b)]) hx hb nd_Law_law_871 hl (by decide) rfl (fun ls hl => ?_)
    refine lv_aload_n hx hb nd_Law_law_873 rfl (lv_at hl 4 rfl) ?_
    refine k_rVI (As := []) (rest := []) (r := S1) hx hb hml hown hts (cn_Model_thrown l D ca (qm 0) (qm 1) (qm 2) (qm 3) (qm 4) (qm 5) (qm 6) (qm 7) (qm 8) (qm 9) (qm 10) (qm 11) (qm 12) (qm 13) (qm 14) (qm 15) (qm 16) (qm 17) (qm 18) (qm 19) (qm 20) (qm 21) (qm 22) (qm 23) (qm 24) ((va_up i 0 S1) 0) ((va_up i 0 S1) 1) ((va_up i 0 S1) 2) ((va_up i 0 S1) 3) ((va_up i 0 S1) 4) ((va_up i 0 S1) 5) ((va_up i 0 S1) 6) ((va_up i 0 S1) 7) S1 rfl) kc_Model_thrown kv_Model_thrown tt_820 ⟨by decide, by decide⟩ rfl rfl hP hK [63] rfl 0 rfl rfl rfl rfl hl.1 (Nat.le_of_ble_eq_true rfl) rfl nd_Law_law_874 ⟨by show _ ≤ 601024; omega, by show _ ≤ 7293034; omega⟩ ?_
    refine lv_iload hx hb nd_Law_law_877 (lv_at hl 1 rfl) ?_
    refine lv_icmp_eq (tgt := 884) hx hb nd_Law_law_879 (by decide) (fun c4 => ?_) (fun c4 => ?_)
    rotate_left
    · exact absurd et c4
    refine lv_iload hx hb nd_Law_law_884 (lv_at hl 1 rfl) ?_
    refine lv_if_ne (tgt := 901) hx hb nd_Law_law_886 (by decide) (fun c5 => ?_) (fun c5 => ?_)
    rotate_left
    · exact absurd c5 (by decide)
    refine lv_goto (tgt := 1452) hx hb nd_Law_law_901 (by decide) ?_
    refine W.widen (k := 400 + n + 1) (n := 20000 + 6 * n + 6) (by omega) (by omega) ?_
    exact hnext _ _ _ _ _ _ _ _ _ _ _ hRel hP hD hS (lv_sub hl [2, 3, 4, 5, 6] rfl)
  ·
    refine lv_aload_n hx hb nd_Law_law_824 rfl (lv_at hl 3 rfl) ?_
    refine lv_aload_n hx hb nd_Law_law_825 rfl (lv_at hl 4 rfl) ?_
    refine lv_iload hx hb nd_Law_law_826 (lv_at hl 0 rfl) ?_
    refine lv_iconst (v := 1) hx hb nd_Law_law_828 (by decide) ?_
    refine lv_iadd hx hb nd_Law_law_829 ?_
    refine k_sld (n := n) (j := 1) hx hb hX hbl hbA hS (k_sidx rfl) (by omega) hL nd_Law_law_830 ?_
    refine lv_aload_n hx hb nd_Law_law_831 rfl (lv_at hl 4 rfl) ?_
    refine lv_iload hx hb nd_Law_law_832 (lv_at hl 0 rfl) ?_
    refine lv_iconst (v := 2) hx hb nd_Law_law_834 (by decide) ?_
    refine lv_iadd hx hb nd_Law_law_835 ?_
    refine k_sld (n := n) (j := 2) hx hb hX hbl hbA hS (k_sidx rfl) (by omega) hL nd_Law_law_836 ?_
    refine lv_aload_n hx hb nd_Law_law_837 rfl (lv_at hl 4 rfl) ?_
    refine lv_iload hx hb nd_Law_law_838 (lv_at hl 0 rfl) ?_
    refine lv_iconst (v := 3) hx hb nd_Law_law_840 (by decide) ?_
    refine lv_iadd hx hb nd_Law_law_841 ?_
    refine k_sld (n := n) (j := 3) hx hb hX hbl hbA hS (k_sidx rfl) (by omega) hL nd_Law_law_842 ?_
    refine lv_aload_n hx hb nd_Law_law_843 rfl (lv_at hl 1 rfl) ?_
    refine k_mSWX (w2 := wA qc qm qo ca I J A L i a l9 o) (As := [.ref (qc 0), .int (xs (n + 1)), .int (xs (n + 2)), .int (xs (n + 3)), .ref qo]) (rest := []) (r := 2) hx hb hml hown hts (hx_Law_risk_2 l hlt D ca (qc 0) (qc 1) (qc 19) (qc 34) (qc 47) (qc 48) (qc 58) (qc 35) (qc 38) (qc 41) (qc 44) (qc 36) (qc 37) (qc 39) (qc 40) (qc 42) (qc 43) (qc 45) (qc 46) qo (I 0) (I 10) (A 16) (A 17) (I 11) (A 18) (A 19) (I 12) (A 20) (A 21) (I 13) (A 22) (A 23) o (xs (n + 1)) (xs (n + 2)) (xs (n + 3)) e1 _) kc_Law_risk ks_Law_risk tt_571 ⟨by decide, by decide⟩ rfl rfl hP hK hD hS hA hev [0, 34, 35, 36, 37, 38, 39, 40, 41, 42, 43, 44, 45, 46, 88] rfl (by decide +kernel) rfl [some 0, none, none, none, none, none, none, none, none, none, none, none, none, none, none, none, none, none, none, none, none, none, none, none, none, none, none, none, none, none, none, none, none, none, some 1, some 2, some 3, some 4, some 5, some 6, some 7, some 8, some 9, some 10, some 11, some 12, some 13, none, none, none, none, none, none, none, none, none, none, none, none, none, none, none, none, none, none, none, none, none, none, none, none, none, none, none, none, none, none, none, none, none, none, none, none, none, none, none, none, none, some 14] (by decide +kernel) rfl rfl hl.1 (Nat.le_of_ble_eq_true rfl) rfl nd_Law_law_844 ⟨by show _ ≤ 601024; omega, by show _ ≤ 7293034; omega⟩ (fun H locs hP hD hS => ?_)
    refine W.widen (k := 400 + n + 1) (n := 20000 + 6 * n + 6) (by omega) (by omega) ?_
    refine lv_istore (lv' := [(5, .int 2), (4, .int (nI n)), (3, .ref qo), (2, .ref (qm 0)), (1, .ref (qc 0)), (0, .ref b)]) hx hb nd_Law_law_847 hl (by decide) rfl (fun ls hl => ?_)
    refine lv_aload_n hx hb nd_Law_law_849 rfl (lv_at hl 3 rfl) ?_
    refine lv_aload_n hx hb nd_Law_law_850 rfl (lv_at hl 5 rfl) ?_
    refine lv_iload hx hb nd_Law_law_851 (lv_at hl 1 rfl) ?_
    refine lv_iconst (v := 1) hx hb nd_Law_law_853 (by decide) ?_
    refine lv_iadd hx hb nd_Law_law_854 ?_
    refine k_sld (n := n) (j := 1) hx hb hX hbl hbA hS (k_sidx rfl) (by omega) hL nd_Law_law_855 ?_
    refine lv_aload_n hx hb nd_Law_law_856 rfl (lv_at hl 5 rfl) ?_
    refine lv_iload hx hb nd_Law_law_857 (lv_at hl 1 rfl) ?_
    refine lv_iconst (v := 2) hx hb nd_Law_law_859 (by decide) ?_
    refine lv_iadd hx hb nd_Law_law_860 ?_
    refine k_sld (n := n) (j := 2) hx hb hX hbl hbA hS (k_sidx rfl) (by omega) hL nd_Law_law_861 ?_
    refine lv_aload_n hx hb nd_Law_law_862 rfl (lv_at hl 5 rfl) ?_
    refine lv_iload hx hb nd_Law_law_863 (lv_at hl 1 rfl) ?_
    refine lv_iconst (v := 3) hx hb nd_Law_law_865 (by decide) ?_
    refine lv_iadd hx hb nd_Law_law_866 ?_
    refine k_sld (n := n) (j := 3) hx hb hX hbl hbA hS (k_sidx rfl) (by omega) hL nd_Law_law_867 ?_
    refine k_mVI (w2 := wA qc qm qo ca I J A L (va_up i 0 S1) (va_up (va_up (va_up a 9 S2) 10 S3) 8 S4) l9 o) (As := [.int (xs (n + 1)), .int (xs (n + 2)), .int (xs (n + 3))]) (rest := []) (r := S0) hx hb hml hown hts (cn_Model_risk l D ca (qm 0) (qm 1) (qm 2) (qm 3) (qm 4) (qm 5) (qm 6) (qm 7) (qm 8) (qm 9) (qm 10) (qm 11) (qm 12) (qm 13) (qm 14) (qm 15) (qm 16) (qm 17) (qm 18) (qm 19) (qm 20) (qm 21) (qm 22) (qm 23) (qm 24) (i 0) (i 1) (i 2) (i 3) (i 4) (i 5) (i 6) (i 7) (a 8) (a 9) (a 10) (xs (n + 1)) (xs (n + 2)) (xs (n + 3)) S0 S1 S2 S3 S4 e2 _) kc_Model_risk kv_Model_risk tt_952 ⟨by decide, by decide⟩ rfl rfl hP hK hD hS hA [63, 76, 77, 78] rfl (by decide +kernel) rfl [none, none, none, none, none, none, none, none, none, none, none, none, none, none, none, none, none, none, none, none, none, none, none, none, none, none, none, none, none, none, none, none, none, none, none, none, none, none, none, none, none, none, none, none, none, none, none, none, none, none, none, none, none, none, none, none, none, none, none, none, none, none, none, some 0, none, none, none, none, none, none, none, none, none, none, none, none, some 1, some 2, some 3, none, none, none, none, none, none, none, none, none, none] (by decide +kernel) rfl 0 rfl rfl rfl rfl hl.1 (Nat.le_of_ble_eq_true rfl) rfl nd_Law_law_868 ⟨by show _ ≤ 601024; omega, by show _ ≤ 7293034; omega⟩ (fun H locs hP hD hS => ?_)
    refine lv_istore (lv' := [(6, .int S0), (5, .int 2), (4, .int (nI n)), (3, .ref qo), (2, .ref (qm 0)), (1, .ref (qc 0)), (0, .ref b)]) hx hb nd_Law_law_871 hl (by decide) rfl (fun ls hl => ?_)
    refine lv_aload_n hx hb nd_Law_law_873 rfl (lv_at hl 4 rfl) ?_
    refine k_rVI (As := []) (rest := []) (r := S1) hx hb hml hown hts (cn_Model_thrown l D ca (qm 0) (qm 1) (qm 2) (qm 3) (qm 4) (qm 5) (qm 6) (qm 7) (qm 8) (qm 9) (qm 10) (qm 11) (qm 12) (qm 13) (qm 14) (qm 15) (qm 16) (qm 17) (qm 18) (qm 19) (qm 20) (qm 21) (qm 22) (qm 23) (qm 24) ((va_up i 0 S1) 0) ((va_up i 0 S1) 1) ((va_up i 0 S1) 2) ((va_up i 0 S1) 3) ((va_up i 0 S1) 4) ((va_up i 0 S1) 5) ((va_up i 0 S1) 6) ((va_up i 0 S1) 7) S1 rfl) kc_Model_thrown kv_Model_thrown tt_820 ⟨by decide, by decide⟩ rfl rfl hP hK [63] rfl 0 rfl rfl rfl rfl hl.1 (Nat.le_of_ble_eq_true rfl) rfl nd_Law_law_874 ⟨by show _ ≤ 601024; omega, by show _ ≤ 7293034; omega⟩ ?_
    refine lv_iload hx hb nd_Law_law_877 (lv_at hl 1 rfl) ?_
    refine lv_icmp_eq (tgt := 884) hx hb nd_Law_law_879 (by decide) (fun c6 => ?_) (fun c6 => ?_)
    rotate_left
    · exact absurd et c6
    refine lv_iload hx hb nd_Law_law_884 (lv_at hl 1 rfl) ?_
    refine lv_if_ne (tgt := 901) hx hb nd_Law_law_886 (by decide) (fun c7 => ?_) (fun c7 => ?_)
    rotate_left
    · exact absurd c7 (by decide)
    refine lv_goto (tgt := 1452) hx hb nd_Law_law_901 (by decide) ?_
    refine W.widen (k := 400 + n + 1) (n := 20000 + 6 * n + 6) (by omega) (by omega) ?_
    exact hnext _ _ _ _ _ _ _ _ _ _ _ hRel hP hD hS (lv_sub hl [2, 3, 4, 5, 6] rfl)
  ·
    refine lv_aload_n hx hb nd_Law_law_824 rfl (lv_at hl 3 rfl) ?_
    refine lv_aload_n hx hb nd_Law_law_825 rfl (lv_at hl 4 rfl) ?_
    refine lv_iload hx hb nd_Law_law_826 (lv_at hl 0 rfl) ?_
    refine lv_iconst (v := 1) hx hb nd_Law_law_828 (by decide) ?_
    refine lv_iadd hx hb nd_Law_law_829 ?_
    refine k_sld (n := n) (j := 1) hx hb hX hbl hbA hS (k_sidx rfl) (by omega) hL nd_Law_law_830 ?_
    refine lv_aload_n hx hb nd_Law_law_831 rfl (lv_at hl 4 rfl) ?_
    refine lv_iload hx hb nd_Law_law_832 (lv_at hl 0 rfl) ?_
    refine lv_iconst (v := 2) hx hb nd_Law_law_834 (by decide) ?_
    refine lv_iadd hx hb nd_Law_law_835 ?_
    refine k_sld (n := n) (j := 2) hx hb hX hbl hbA hS (k_sidx rfl) (by omega) hL nd_Law_law_836 ?_
    refine lv_aload_n hx hb nd_Law_law_837 rfl (lv_at hl 4 rfl) ?_
    refine lv_iload hx hb nd_Law_law_838 (lv_at hl 0 rfl) ?_
    refine lv_iconst (v := 3) hx hb nd_Law_law_840 (by decide) ?_
    refine lv_iadd hx hb nd_Law_law_841 ?_
    refine k_sld (n := n) (j := 3) hx hb hX hbl hbA hS (k_sidx rfl) (by omega) hL nd_Law_law_842 ?_
    refine lv_aload_n hx hb nd_Law_law_843 rfl (lv_at hl 1 rfl) ?_
    refine k_mSWX (w2 := wA qc qm qo ca I J A L i a l9 o) (As := [.ref (qc 0), .int (xs (n + 1)), .int (xs (n + 2)), .int (xs (n + 3)), .ref qo]) (rest := []) (r := 3) hx hb hml hown hts (hx_Law_risk_3 l hlt D ca (qc 0) (qc 1) (qc 19) (qc 34) (qc 47) (qc 48) (qc 58) (qc 35) (qc 38) (qc 41) (qc 44) (qc 36) (qc 37) (qc 39) (qc 40) (qc 42) (qc 43) (qc 45) (qc 46) qo (I 0) (I 10) (A 16) (A 17) (I 11) (A 18) (A 19) (I 12) (A 20) (A 21) (I 13) (A 22) (A 23) o (xs (n + 1)) (xs (n + 2)) (xs (n + 3)) e1 _) kc_Law_risk ks_Law_risk tt_571 ⟨by decide, by decide⟩ rfl rfl hP hK hD hS hA hev [0, 34, 35, 36, 37, 38, 39, 40, 41, 42, 43, 44, 45, 46, 88] rfl (by decide +kernel) rfl [some 0, none, none, none, none, none, none, none, none, none, none, none, none, none, none, none, none, none, none, none, none, none, none, none, none, none, none, none, none, none, none, none, none, none, some 1, some 2, some 3, some 4, some 5, some 6, some 7, some 8, some 9, some 10, some 11, some 12, some 13, none, none, none, none, none, none, none, none, none, none, none, none, none, none, none, none, none, none, none, none, none, none, none, none, none, none, none, none, none, none, none, none, none, none, none, none, none, none, none, none, none, some 14] (by decide +kernel) rfl rfl hl.1 (Nat.le_of_ble_eq_true rfl) rfl nd_Law_law_844 ⟨by show _ ≤ 601024; omega, by show _ ≤ 7293034; omega⟩ (fun H locs hP hD hS => ?_)
    refine W.widen (k := 400 + n + 1) (n := 20000 + 6 * n + 6) (by omega) (by omega) ?_
    refine lv_istore (lv' := [(5, .int 3), (4, .int (nI n)), (3, .ref qo), (2, .ref (qm 0)), (1, .ref (qc 0)), (0, .ref b)]) hx hb nd_Law_law_847 hl (by decide) rfl (fun ls hl => ?_)
    refine lv_aload_n hx hb nd_Law_law_849 rfl (lv_at hl 3 rfl) ?_
    refine lv_aload_n hx hb nd_Law_law_850 rfl (lv_at hl 5 rfl) ?_
    refine lv_iload hx hb nd_Law_law_851 (lv_at hl 1 rfl) ?_
    refine lv_iconst (v := 1) hx hb nd_Law_law_853 (by decide) ?_
    refine lv_iadd hx hb nd_Law_law_854 ?_
    refine k_sld (n := n) (j := 1) hx hb hX hbl hbA hS (k_sidx rfl) (by omega) hL nd_Law_law_855 ?_
    refine lv_aload_n hx hb nd_Law_law_856 rfl (lv_at hl 5 rfl) ?_
    refine lv_iload hx hb nd_Law_law_857 (lv_at hl 1 rfl) ?_
    refine lv_iconst (v := 2) hx hb nd_Law_law_859 (by decide) ?_
    refine lv_iadd hx hb nd_Law_law_860 ?_
    refine k_sld (n := n) (j := 2) hx hb hX hbl hbA hS (k_sidx rfl) (by omega) hL nd_Law_law_861 ?_
    refine lv_aload_n hx hb nd_Law_law_862 rfl (lv_at hl 5 rfl) ?_
    refine lv_iload hx hb nd_Law_law_863 (lv_at hl 1 rfl) ?_
    refine lv_iconst (v := 3) hx hb nd_Law_law_865 (by decide) ?_
    refine lv_iadd hx hb nd_Law_law_866 ?_
    refine k_sld (n := n) (j := 3) hx hb hX hbl hbA hS (k_sidx rfl) (by omega) hL nd_Law_law_867 ?_
    refine k_mVI (w2 := wA qc qm qo ca I J A L (va_up i 0 S1) (va_up (va_up (va_up a 9 S2) 10 S3) 8 S4) l9 o) (As := [.int (xs (n + 1)), .int (xs (n + 2)), .int (xs (n + 3))]) (rest := []) (r := S0) hx hb hml hown hts (cn_Model_risk l D ca (qm 0) (qm 1) (qm 2) (qm 3) (qm 4) (qm 5) (qm 6) (qm 7) (qm 8) (qm 9) (qm 10) (qm 11) (qm 12) (qm 13) (qm 14) (qm 15) (qm 16) (qm 17) (qm 18) (qm 19) (qm 20) (qm 21) (qm 22) (qm 23) (qm 24) (i 0) (i 1) (i 2) (i 3) (i 4) (i 5) (i 6) (i 7) (a 8) (a 9) (a 10) (xs (n + 1)) (xs (n + 2)) (xs (n + 3)) S0 S1 S2 S3 S4 e2 _) kc_Model_risk kv_Model_risk tt_952 ⟨by decide, by decide⟩ rfl rfl hP hK hD hS hA [63, 76, 77, 78] rfl (by decide +kernel) rfl [none, none, none, none, none, none, none, none, none, none, none, none, none, none, none, none, none, none, none, none, none, none, none, none, none, none, none, none, none, none, none, none, none, none, none, none, none, none, none, none, none, none, none, none, none, none, none, none, none, none, none, none, none, none, none, none, none, none, none, none, none, none, none, some 0, none, none, none, none, none, none, none, none, none, none, none, none, some 1, some 2, some 3, none, none, none, none, none, none, none, none, none, none] (by decide +kernel) rfl 0 rfl rfl rfl rfl hl.1 (Nat.le_of_ble_eq_true rfl) rfl nd_Law_law_868 ⟨by show _ ≤ 601024; omega, by show _ ≤ 7293034; omega⟩ (fun H locs hP hD hS => ?_)
    refine lv_istore (lv' := [(6, .int S0), (5, .int 3), (4, .int (nI n)), (3, .ref qo), (2, .ref (qm 0)), (1, .ref (qc 0)), (0, .ref b)]) hx hb nd_Law_law_871 hl (by decide) rfl (fun ls hl => ?_)
    refine lv_aload_n hx hb nd_Law_law_873 rfl (lv_at hl 4 rfl) ?_
    refine k_rVI (As := []) (rest := []) (r := S1) hx hb hml hown hts (cn_Model_thrown l D ca (qm 0) (qm 1) (qm 2) (qm 3) (qm 4) (qm 5) (qm 6) (qm 7) (qm 8) (qm 9) (qm 10) (qm 11) (qm 12) (qm 13) (qm 14) (qm 15) (qm 16) (qm 17) (qm 18) (qm 19) (qm 20) (qm 21) (qm 22) (qm 23) (qm 24) ((va_up i 0 S1) 0) ((va_up i 0 S1) 1) ((va_up i 0 S1) 2) ((va_up i 0 S1) 3) ((va_up i 0 S1) 4) ((va_up i 0 S1) 5) ((va_up i 0 S1) 6) ((va_up i 0 S1) 7) S1 rfl) kc_Model_thrown kv_Model_thrown tt_820 ⟨by decide, by decide⟩ rfl rfl hP hK [63] rfl 0 rfl rfl rfl rfl hl.1 (Nat.le_of_ble_eq_true rfl) rfl nd_Law_law_874 ⟨by show _ ≤ 601024; omega, by show _ ≤ 7293034; omega⟩ ?_
    refine lv_iload hx hb nd_Law_law_877 (lv_at hl 1 rfl) ?_
    refine lv_icmp_eq (tgt := 884) hx hb nd_Law_law_879 (by decide) (fun c8 => ?_) (fun c8 => ?_)
    rotate_left
    · exact absurd et c8
    refine lv_iload hx hb nd_Law_law_884 (lv_at hl 1 rfl) ?_
    refine lv_if_ne (tgt := 901) hx hb nd_Law_law_886 (by decide) (fun c9 => ?_) (fun c9 => ?_)
    rotate_left
    · exact absurd c9 (by decide)
    refine lv_goto (tgt := 1452) hx hb nd_Law_law_901 (by decide) ?_
    refine W.widen (k := 400 + n + 1) (n := 20000 + 6 * n + 6) (by omega) (by omega) ?_
    exact hnext _ _ _ _ _ _ _ _ _ _ _ hRel hP hD hS (lv_sub hl [2, 3, 4, 5, 6] rfl)
