set_option maxHeartbeats 4000000 in
set_option maxRecDepth 100000 in
theorem law_loop {p : Program} {l : Launch} {e : Env} {s : State} {m : MethodId} {below : List Frame} {meth : Method} {c : Code} {D : va_G} {ca : Nat → ClassId} {b Ls : Nat} {xs : Nat → Int32} (C0 : lw_At p s m meth c b Ls xs) (hL : Ls ≤ 2560) (hlt : l.stackTraces = false) (hev0 : xt_ev s s.heap) (hK : va_K D vwCl (tyG ca) s) {qc qm : Nat → Nat} {qo : Nat} :
    ∀ (f n : Nat), n ≤ Ls → Ls + 1 ≤ n + f → ∀ (I : Nat → Int32) (J : Nat → Int64) (A : Nat → Nat → Int32) (L : Nat → Nat → Int64) (i : Nat → Int32) (a : Nat → Nat → Int32) (l9 : Nat → Nat → Int64) (o : Nat → Int64) (H : Heap) (locs : List Loc) (ls : Array Slot), pu_RelB I J A L i a l9 → va_P D vwCl (wA qc qm qo ca I J A L i a l9 o) H → va_D (fun q : Nat => s.heap.size ≤ q) (wA qc qm qo ca I J A L i a l9 o) → va_S (fun q : Nat => s.heap.size ≤ q) s.heap H locs → lv_has ls 8 [(4, .int (nI n)), (3, .ref qo), (2, .ref (qm 0)), (1, .ref (qc 0)), (0, .ref b)] → W p l e room_1 s m #[Value.ref b] below meth c H locs (400 + n) (20000 + 6 * n) (lw_Z below #[Value.ref b] s) (F0 m 23 ls []) := by
  obtain ⟨hx, hb, hr, hml, hown, hts0, hX, hbl, hlocks, hgv⟩ := id C0
  have hbA : ¬ (fun q : Nat => s.heap.size ≤ q) b := Nat.not_le.mpr hbl
  intro f
  induction f with
  | zero =>
    intro n h1 h2
    exact absurd h2 (by omega)
  | succ f ih =>
    intro n hnL hnf I J A L i a l9 o H locs ls hR hP hD hS hl
    refine lv_iload hx hb nd_Law_law_23 (lv_at hl 0 rfl) ?_
    refine lv_aload_n hx hb nd_Law_law_25 rfl (lv_at hl 4 rfl) ?_
    refine va_slen hx hb hX hbl hbA hS nd_Law_law_26 ?_
    refine lv_iconst (v := 5) hx hb nd_Law_law_27 (by decide) ?_
    refine lv_isub hx hb nd_Law_law_28 ?_
    have e5 : (nI Ls - 5).toInt = (Ls : Int) - 5 := pk_sub_toInt (a := Ls) (b := 5) (by omega) (by decide)
    have en : (nI n).toInt = (n : Int) := nI_toInt (by omega)
    refine lv_icmp_gt (tgt := 1458) hx hb nd_Law_law_29 (by decide) (fun c1 => ?_) (fun c1 => ?_)
    · refine lv_iconst (v := 1) hx hb nd_Law_law_1458 (by decide) ?_
      refine va_forget (fun q hq => hS.2.2 q hq) ?_
      refine W.widen (k := 601024) (n := 7293034) (by omega) (by omega) ?_
      exact lw_ret hx hb hr hlocks nd_Law_law_1459
    · have hn : n + 5 ≤ Ls := by
        have c1 : ¬ (nI Ls - 5) < nI n := c1
        rw [Int32.lt_iff_toInt_lt, e5, en] at c1
        omega
      have hnext : ∀ (I : Nat → Int32) (J : Nat → Int64) (A : Nat → Nat → Int32) (L : Nat → Nat → Int64) (i : Nat → Int32) (a : Nat → Nat → Int32) (l9 : Nat → Nat → Int64) (o : Nat → Int64) (H : Heap) (locs : List Loc) (ls : Array Slot), pu_RelB I J A L i a l9 → va_P D vwCl (wA qc qm qo ca I J A L i a l9 o) H → va_D (fun q : Nat => s.heap.size ≤ q) (wA qc qm qo ca I J A L i a l9 o) → va_S (fun q : Nat => s.heap.size ≤ q) s.heap H locs → lv_has ls 8 [(4, .int (nI n)), (3, .ref qo), (2, .ref (qm 0)), (1, .ref (qc 0)), (0, .ref b)] → W p l e room_1 s m #[Value.ref b] below meth c H locs (400 + n + 1) (20000 + 6 * n + 6) (lw_Z below #[Value.ref b] s) (F0 m 1452 ls []) := by
        intro I J A L i a l9 o H locs ls hR hP hD hS hl
        refine lv_iinc (v := nI (n + 5)) (lv' := [(4, .int (nI (n + 5))), (3, .ref qo), (2, .ref (qm 0)), (1, .ref (qc 0)), (0, .ref b)]) hx hb nd_Law_law_1452 hl (k := 0) rfl (k_sidx (n := n) (j := 5) (jj := Int32.ofInt 5) (by decide)) (by decide) rfl (fun ls hl => ?_)
        refine lv_goto (tgt := 23) hx hb nd_Law_law_1455 (by decide) ?_
        refine W.widen (k := 400 + (n + 5)) (n := 20000 + 6 * (n + 5)) (by omega) (by omega) ?_
        exact ih (n + 5) (by omega) (by omega) I J A L i a l9 o H locs ls hR hP hD hS hl
      refine lv_aload_n hx hb nd_Law_law_32 rfl (lv_at hl 4 rfl) ?_
      refine lv_iload hx hb nd_Law_law_33 (lv_at hl 0 rfl) ?_
      refine k_sld (n := n) (j := 0) hx hb hX hbl hbA hS rfl (by omega) hL nd_Law_law_35 ?_
      refine lv_bipush (v := 31) hx hb nd_Law_law_36 (by decide) ?_
      refine lv_iand hx hb nd_Law_law_38 ?_
      generalize hy : (xs (n + 0) &&& 31) = y
      clear hy
      by_cases k0 : y.toInt = 0
      · refine lv_tableIn (off := 105) (tgt := 144) hx hb nd_Law_law_39 (by omega) (by omega) (by rw [k0]; rfl) (by decide) ?_
        exact lc_room C0 hL hlt hev0 hK hn hP hD hS hl (pb_room hR o (xs (n + 1)) (xs (n + 2))) hnext
      by_cases k1 : y.toInt = 1
      · refine lv_tableIn (off := 153) (tgt := 192) hx hb nd_Law_law_39 (by omega) (by omega) (by rw [k1]; rfl) (by decide) ?_
        exact lc_wall C0 hL hlt hev0 hK hn hP hD hS hl (pb_wall hR o (xs (n + 1)) (xs (n + 2))) hnext
      by_cases k2 : y.toInt = 2
      · refine lv_tableIn (off := 221) (tgt := 260) hx hb nd_Law_law_39 (by omega) (by omega) (by rw [k2]; rfl) (by decide) ?_
        exact lc_goods C0 hL hlt hev0 hK hn hP hD hS hl (pb_goods hR o (xs (n + 1))) hnext
      by_cases k3 : y.toInt = 3
      · refine lv_tableIn (off := 277) (tgt := 316) hx hb nd_Law_law_39 (by omega) (by omega) (by rw [k3]; rfl) (by decide) ?_
        exact lc_row C0 hL hlt hev0 hK hn hP hD hS hl (pb_row hR o (xs (n + 1)) (xs (n + 2))) hnext
      by_cases k4 : y.toInt = 4
      · refine lv_tableIn (off := 345) (tgt := 384) hx hb nd_Law_law_39 (by omega) (by omega) (by rw [k4]; rfl) (by decide) ?_
        exact lc_machine C0 hL hlt hev0 hK hn hP hD hS hl (pb_machine hR o (xs (n + 1)) (xs (n + 2)) (xs (n + 3)) (xs (n + 4))) hnext
      by_cases k5 : y.toInt = 5
      · refine lv_tableIn (off := 417) (tgt := 456) hx hb nd_Law_law_39 (by omega) (by omega) (by rw [k5]; rfl) (by decide) ?_
        exact lc_hour C0 hL hlt hev0 hK hn hP hD hS hl (pb_hour hR o (xs (n + 1)) (xs (n + 2)) (xs (n + 3))) hnext
      by_cases k6 : y.toInt = 6
      · refine lv_tableIn (off := 497) (tgt := 536) hx hb nd_Law_law_39 (by omega) (by omega) (by rw [k6]; rfl) (by decide) ?_
        exact lc_degrees C0 hL hlt hev0 hK hn hP hD hS hl (pb_degrees hR o) hnext
      by_cases k7 : y.toInt = 7
      · refine lv_tableIn (off := 510) (tgt := 549) hx hb nd_Law_law_39 (by omega) (by omega) (by rw [k7]; rfl) (by decide) ?_
        exact lc_damp C0 hL hlt hev0 hK hn hP hD hS hl (pb_damp hR o) hnext
      by_cases k8 : y.toInt = 8
      · refine lv_tableIn (off := 523) (tgt := 562) hx hb nd_Law_law_39 (by omega) (by omega) (by rw [k8]; rfl) (by decide) ?_
        exact lc_layer C0 hL hlt hev0 hK hn hP hD hS hl (pb_layer hR o (xs (n + 1))) hnext
      by_cases k9 : y.toInt = 9
      · refine lv_tableIn (off := 579) (tgt := 618) hx hb nd_Law_law_39 (by omega) (by omega) (by rw [k9]; rfl) (by decide) ?_
        exact lc_held C0 hL hlt hev0 hK hn hP hD hS hl (pb_held hR o) hnext
      by_cases k10 : y.toInt = 10
      · refine lv_tableIn (off := 592) (tgt := 631) hx hb nd_Law_law_39 (by omega) (by omega) (by rw [k10]; rfl) (by decide) ?_
        exact lc_on C0 hL hlt hev0 hK hn hP hD hS hl (pb_on hR o (xs (n + 1))) hnext
      by_cases k11 : y.toInt = 11
      · refine lv_tableIn (off := 655) (tgt := 694) hx hb nd_Law_law_39 (by omega) (by omega) (by rw [k11]; rfl) (by decide) ?_
        exact lc_book C0 hL hlt hev0 hK hn hP hD hS hl (pb_book hR o (xs (n + 1)) (xs (n + 2))) hnext
      by_cases k12 : y.toInt = 12
      · refine lv_tableIn (off := 722) (tgt := 761) hx hb nd_Law_law_39 (by omega) (by omega) (by rw [k12]; rfl) (by decide) ?_
        exact lc_dew C0 hL hlt hev0 hK hn hP hD hS hl (pb_dew hR o (xs (n + 1))) hnext
      by_cases k13 : y.toInt = 13
      · refine lv_tableIn (off := 785) (tgt := 824) hx hb nd_Law_law_39 (by omega) (by omega) (by rw [k13]; rfl) (by decide) ?_
        exact lc_risk C0 hL hlt hev0 hK hn hP hD hS hl (pb_risk hR o (xs (n + 1)) (xs (n + 2)) (xs (n + 3))) hnext
      by_cases k14 : y.toInt = 14
      · refine lv_tableIn (off := 865) (tgt := 904) hx hb nd_Law_law_39 (by omega) (by omega) (by rw [k14]; rfl) (by decide) ?_
        exact lc_points C0 hL hlt hev0 hK hn hP hD hS hl (pb_points hR o (xs (n + 1))) hnext
      by_cases k15 : y.toInt = 15
      · refine lv_tableIn (off := 921) (tgt := 960) hx hb nd_Law_law_39 (by omega) (by omega) (by rw [k15]; rfl) (by decide) ?_
        exact lc_rule C0 hL hlt hev0 hK hn hP hD hS hl (pb_rule hR o (xs (n + 1)) (xs (n + 2)) (xs (n + 3))) hnext
      by_cases k16 : y.toInt = 16
      · refine lv_tableIn (off := 1001) (tgt := 1040) hx hb nd_Law_law_39 (by omega) (by omega) (by rw [k16]; rfl) (by decide) ?_
        exact lc_alarm C0 hL hlt hev0 hK hn hP hD hS hl (pb_alarm hR o (xs (n + 1)) (xs (n + 2))) hnext
      by_cases k17 : y.toInt = 17
      · refine lv_tableIn (off := 1069) (tgt := 1108) hx hb nd_Law_law_39 (by omega) (by omega) (by rw [k17]; rfl) (by decide) ?_
        exact lc_sensor C0 hL hlt hev0 hK hn hP hD hS hl (pb_sensor hR o (xs (n + 1)) (xs (n + 2))) hnext
      by_cases k18 : y.toInt = 18
      · refine lv_tableIn (off := 1117) (tgt := 1156) hx hb nd_Law_law_39 (by omega) (by omega) (by rw [k18]; rfl) (by decide) ?_
        exact lc_check C0 hL hlt hev0 hK hn hP hD hS hl (pb_check hR o (xs (n + 1)) (xs (n + 2))) hnext
      by_cases k19 : y.toInt = 19
      · refine lv_tableIn (off := 1165) (tgt := 1204) hx hb nd_Law_law_39 (by omega) (by omega) (by rw [k19]; rfl) (by decide) ?_
        exact lc_corrected C0 hL hlt hev0 hK hn hP hD hS hl (pb_corrected hR o (xs (n + 1))) hnext
      by_cases k20 : y.toInt = 20
      · refine lv_tableIn (off := 1221) (tgt := 1260) hx hb nd_Law_law_39 (by omega) (by omega) (by rw [k20]; rfl) (by decide) ?_
        exact lc_silent C0 hL hlt hev0 hK hn hP hD hS hl (pb_silent hR o (xs (n + 1))) hnext
      by_cases k21 : y.toInt = 21
      · refine lv_tableIn (off := 1277) (tgt := 1316) hx hb nd_Law_law_39 (by omega) (by omega) (by rw [k21]; rfl) (by decide) ?_
        exact lc_plan C0 hL hlt hev0 hK hn hP hD hS hl (pb_plan hR o (xs (n + 1)) (xs (n + 2)) (xs (n + 3))) hnext
      by_cases k22 : y.toInt = 22
      · refine lv_tableIn (off := 1357) (tgt := 1396) hx hb nd_Law_law_39 (by omega) (by omega) (by rw [k22]; rfl) (by decide) ?_
        exact lc_count C0 hL hlt hev0 hK hn hP hD hS hl (pb_count hR o (xs (n + 1))) hnext
      refine lv_tableOut (tgt := 1452) hx hb nd_Law_law_39 (by omega) (by decide) ?_
      refine W.widen (k := 400 + n + 1) (n := 20000 + 6 * n + 6) (by omega) (by omega) ?_
      exact hnext I J A L i a l9 o H locs ls hR hP hD hS hl
