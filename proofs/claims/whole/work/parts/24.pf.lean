theorem pu_setru {h w g : Int64} {F : Nat → Int64} {ru ru' : Nat → Int32} {now : Nat → Int64} {lo hi ra to : Nat → Int32} (hN : pu_Rnow h w g F ru now) (hM : pu_Mok lo hi ra to ru) {k : Nat} (hk : k < 4) (h1 : ru' k = 0 ∨ ru' k = 1) (h2 : to k = 0 → ru' k = 0) (ho : ∀ j, j ≠ k → ru' j = ru j) : pu_Rnow h w g F ru' (vp_updL now (8 + k) (ru' k).toInt64) ∧ pu_Mok lo hi ra to ru' := by
  obtain ⟨n0, n1, n2, n3, n4⟩ := hN
  refine ⟨⟨?_, ?_, ?_, ?_, ?_⟩, ?_⟩
  · rw [pk_uLn (by omega), n0]
  · rw [pk_uLn (by omega), n1]
  · rw [pk_uLn (by omega), n2]
  · intro j hj
    rw [pk_uLn (by omega), n3 j hj]
  · intro j hj
    by_cases hq : j = k
    · rw [hq, pk_uLs]
    · rw [pk_uLn (by omega), n4 j hj, ho j hq]
  · intro j hj
    by_cases hq : j = k
    · rw [hq]
      exact ⟨h1, h2, (hM k hk).2.2⟩
    · rw [ho j hq]
      exact hM j hj
theorem pu_w3 (x w : Int64) (N : Nat → Int64) : gx_b1 (gx_b1 (if lg_cmp x w ≤ 0 then some x else some w) (fun j => some j)) (fun j => some (j, N)) = some (if x ≤ w then x else w, N) := by
  by_cases c : x ≤ w
  · rw [if_pos ((lg_cmp_le _ _).2 c), if_pos c]
    rfl
  · rw [if_neg (fun hh => c ((lg_cmp_le _ _).1 hh)), if_neg c]
    rfl
theorem pu_n0 : ¬ (1 : Int32) = 0 := by decide
theorem pu_z0 : (0 : Int32) = 0 := rfl
theorem pu_nb1 : vp_nar .boolean (1 : Int32) = 1 := rfl
theorem pu_nb0 : vp_nar .boolean (0 : Int32) = 0 := rfl
theorem pu_out {ru ra : Nat → Int32} {k : Int32} (h0 : 0 ≤ k.toInt) (h4 : k.toInt < 4) : fn_Machines_output ru ra k = some (if ru k.toNatClampNeg = 0 then 0 else ra k.toNatClampNeg) := by
  unfold fn_Machines_output
  rw [if_pos (pu_ix h0 h4)]
  by_cases c : ru k.toNatClampNeg = 0
  · rw [if_pos c, if_pos c]
    rfl
  · rw [if_neg c, if_neg c]
    rfl
theorem pu_on {x r : Int32} (h : x = 0 ∨ x = 1) : x.toInt64 * r.toInt64 = (if x = 0 then 0 else r).toInt64 := by
  rcases h with h | h
  · rw [h, if_pos rfl]
    exact Int64.zero_mul
  · rw [h, if_neg pu_n0]
    exact Int64.one_mul _
theorem pu_wk0 {h w g : Int64} {F : Nat → Int64} {ru : Nat → Int32} {now : Nat → Int64} {lo hi ra to : Nat → Int32} {v : Int32} (hv : 0 < v.toInt) (hN : pu_Rnow h w g F ru now) (hM : pu_Mok lo hi ra to ru) : ∃ ru' : Nat → Int32, fn_Machines_steer to lo hi ru (0 : Int32) (pu_by h v.toInt64) = some ru' ∧ fn_Model_works v now hi lo to ra (0 : Int32) = some ((ru' 0).toInt64 * (ra 0).toInt64, vp_updL now (8 + 0) (ru' 0).toInt64) ∧ (ru' 0 = 0 ∨ ru' 0 = 1) ∧ (to 0 = 0 → ru' 0 = 0) ∧ ∀ j, j ≠ 0 → ru' j = ru j := by
  have kd1 : ¬ (2 : Int32) ≤ (0 : Int32) := by decide
  have kd2 : (0 : Int32) = 0 := by decide
  have kd4 : ¬ (0 : Int32) = (3 : Int32) := by decide
  have ki4 : gx_ix (0 : Int32) 4 = true := by decide
  have ki12 : gx_ix ((8 : Int32) + (0 : Int32)) 12 = true := by decide
  obtain ⟨m1, m2, m3, m4⟩ := hM 0 (by decide)
  have n8 : now (8 + 0) = (ru 0).toInt64 := hN.2.2.2.2 0 (by decide)
  by_cases cl : 0 ≤ lg_cmp (pu_by h v.toInt64) (lo ((0 : Int32).toNatClampNeg)).toInt64 <;> by_cases cu : lg_cmp (pu_by h v.toInt64) (hi ((0 : Int32).toNatClampNeg)).toInt64 ≤ 0 <;> by_cases ct : to ((0 : Int32).toNatClampNeg) = 0
  · refine ⟨ru, ?_, ?_, Or.inl (m2 ct), m2, fun _ _ => rfl⟩
    · simp only [fn_Machines_steer, if_pos ki4, if_pos cl, if_pos cu, if_pos ct, if_pos kd2, if_neg pu_n0, if_pos pu_z0, pu_b1, pu_nb0, pu_nb1] <;> rfl
    · have q0 : ru 0 = 0 := m2 ct
      rw [q0]
      simp only [fn_Model_works, if_neg kd1, if_pos kd2, if_neg kd4, if_neg pu_n0, if_pos pu_z0, if_pos ki4, if_pos ki12, pu_b1, pu_b2, pu_mdeg hv, pu_mdam hv, hN.1, hN.2.1, if_pos cl, if_pos cu, if_pos ct] <;> rfl
  · refine ⟨ru, ?_, ?_, m1, m2, fun _ _ => rfl⟩
    · simp only [fn_Machines_steer, if_pos ki4, if_pos cl, if_pos cu, if_neg ct, if_pos kd2, if_neg pu_n0, if_pos pu_z0, pu_b1, pu_nb0, pu_nb1] <;> rfl
    · rw [← n8]
      simp only [fn_Model_works, if_neg kd1, if_pos kd2, if_neg kd4, if_neg pu_n0, if_pos pu_z0, if_pos ki4, if_pos ki12, pu_b1, pu_b2, pu_mdeg hv, pu_mdam hv, hN.1, hN.2.1, if_pos cl, if_pos cu, if_neg ct] <;> rfl
  · refine ⟨ru, ?_, ?_, Or.inl (m2 ct), m2, fun _ _ => rfl⟩
    · simp only [fn_Machines_steer, if_pos ki4, if_pos cl, if_neg cu, if_pos ct, if_pos kd2, if_neg pu_n0, if_pos pu_z0, pu_b1, pu_nb0, pu_nb1] <;> rfl
    · have q0 : ru 0 = 0 := m2 ct
      rw [q0]
      simp only [fn_Model_works, if_neg kd1, if_pos kd2, if_neg kd4, if_neg pu_n0, if_pos pu_z0, if_pos ki4, if_pos ki12, pu_b1, pu_b2, pu_mdeg hv, pu_mdam hv, hN.1, hN.2.1, if_pos cl, if_neg cu, if_pos ct] <;> rfl
  · refine ⟨(upd ru 0 0), ?_, ?_, Or.inl pk_us, (fun hh => absurd hh ct), fun j hj => pk_un hj⟩
    · simp only [fn_Machines_steer, if_pos ki4, if_pos cl, if_neg cu, if_neg ct, if_pos kd2, if_neg pu_n0, if_pos pu_z0, pu_b1, pu_nb0, pu_nb1] <;> rfl
    · rw [show upd ru 0 0 0 = 0 from pk_us]
      simp only [fn_Model_works, if_neg kd1, if_pos kd2, if_neg kd4, if_neg pu_n0, if_pos pu_z0, if_pos ki4, if_pos ki12, pu_b1, pu_b2, pu_mdeg hv, pu_mdam hv, hN.1, hN.2.1, if_pos cl, if_neg cu, if_neg ct] <;> rfl
  · refine ⟨ru, ?_, ?_, Or.inl (m2 ct), m2, fun _ _ => rfl⟩
    · simp only [fn_Machines_steer, if_pos ki4, if_neg cl, if_pos cu, if_pos ct, if_pos kd2, if_neg pu_n0, if_pos pu_z0, pu_b1, pu_nb0, pu_nb1] <;> rfl
    · have q0 : ru 0 = 0 := m2 ct
      rw [q0]
      simp only [fn_Model_works, if_neg kd1, if_pos kd2, if_neg kd4, if_neg pu_n0, if_pos pu_z0, if_pos ki4, if_pos ki12, pu_b1, pu_b2, pu_mdeg hv, pu_mdam hv, hN.1, hN.2.1, if_neg cl, if_pos cu, if_pos ct] <;> rfl
  · refine ⟨(upd ru 0 1), ?_, ?_, Or.inr pk_us, (fun hh => absurd hh ct), fun j hj => pk_un hj⟩
    · simp only [fn_Machines_steer, if_pos ki4, if_neg cl, if_pos cu, if_neg ct, if_pos kd2, if_neg pu_n0, if_pos pu_z0, pu_b1, pu_nb0, pu_nb1] <;> rfl
    · rw [show upd ru 0 1 0 = 1 from pk_us]
      simp only [fn_Model_works, if_neg kd1, if_pos kd2, if_neg kd4, if_neg pu_n0, if_pos pu_z0, if_pos ki4, if_pos ki12, pu_b1, pu_b2, pu_mdeg hv, pu_mdam hv, hN.1, hN.2.1, if_neg cl, if_pos cu, if_neg ct] <;> rfl
  · refine ⟨ru, ?_, ?_, Or.inl (m2 ct), m2, fun _ _ => rfl⟩
    · simp only [fn_Machines_steer, if_pos ki4, if_neg cl, if_neg cu, if_pos ct, if_pos kd2, if_neg pu_n0, if_pos pu_z0, pu_b1, pu_nb0, pu_nb1] <;> rfl
    · have q0 : ru 0 = 0 := m2 ct
      rw [q0]
      simp only [fn_Model_works, if_neg kd1, if_pos kd2, if_neg kd4, if_neg pu_n0, if_pos pu_z0, if_pos ki4, if_pos ki12, pu_b1, pu_b2, pu_mdeg hv, pu_mdam hv, hN.1, hN.2.1, if_neg cl, if_neg cu, if_pos ct] <;> rfl
  · exfalso
    rw [lg_cmp_ge, Int64.le_iff_toInt_le, Int32.toInt_toInt64] at cl
    rw [lg_cmp_le, Int64.le_iff_toInt_le, Int32.toInt_toInt64] at cu
    have m5 := Int32.le_iff_toInt_le.1 (m3 ct)
    have cl : ¬ (lo 0).toInt ≤ (pu_by h v.toInt64).toInt := cl
    have cu : ¬ (pu_by h v.toInt64).toInt ≤ (hi 0).toInt := cu
    omega
theorem pu_wk1 {h w g : Int64} {F : Nat → Int64} {ru : Nat → Int32} {now : Nat → Int64} {lo hi ra to : Nat → Int32} {v : Int32} (hv : 0 < v.toInt) (hN : pu_Rnow h w g F ru now) (hM : pu_Mok lo hi ra to ru) : ∃ ru' : Nat → Int32, fn_Machines_steer to lo hi ru (1 : Int32) (pu_by h v.toInt64) = some ru' ∧ fn_Model_works v now hi lo to ra (1 : Int32) = some ((ru' 1).toInt64 * (ra 1).toInt64, vp_updL now (8 + 1) (ru' 1).toInt64) ∧ (ru' 1 = 0 ∨ ru' 1 = 1) ∧ (to 1 = 0 → ru' 1 = 0) ∧ ∀ j, j ≠ 1 → ru' j = ru j := by
  have kd1 : ¬ (2 : Int32) ≤ (1 : Int32) := by decide
  have kd2 : ¬ (1 : Int32) = 0 := by decide
  have kd3 : ¬ (1 : Int32) = (2 : Int32) := by decide
  have kd4 : ¬ (1 : Int32) = (3 : Int32) := by decide
  have ki4 : gx_ix (1 : Int32) 4 = true := by decide
  have ki12 : gx_ix ((8 : Int32) + (1 : Int32)) 12 = true := by decide
  obtain ⟨m1, m2, m3, m4⟩ := hM 1 (by decide)
  have n8 : now (8 + 1) = (ru 1).toInt64 := hN.2.2.2.2 1 (by decide)
  by_cases cl : 0 ≤ lg_cmp (pu_by h v.toInt64) (lo ((1 : Int32).toNatClampNeg)).toInt64 <;> by_cases cu : lg_cmp (pu_by h v.toInt64) (hi ((1 : Int32).toNatClampNeg)).toInt64 ≤ 0 <;> by_cases ct : to ((1 : Int32).toNatClampNeg) = 0
  · refine ⟨ru, ?_, ?_, Or.inl (m2 ct), m2, fun _ _ => rfl⟩
    · simp only [fn_Machines_steer, if_pos ki4, if_pos cl, if_pos cu, if_pos ct, if_neg kd2, if_neg kd3, if_neg pu_n0, if_pos pu_z0, pu_b1, pu_nb0, pu_nb1] <;> rfl
    · have q0 : ru 1 = 0 := m2 ct
      rw [q0]
      simp only [fn_Model_works, if_neg kd1, if_neg kd2, if_neg kd3, if_neg kd4, if_neg pu_n0, if_pos pu_z0, if_pos ki4, if_pos ki12, pu_b1, pu_b2, pu_mdeg hv, pu_mdam hv, hN.1, hN.2.1, if_pos cl, if_pos cu, if_pos ct] <;> rfl
  · refine ⟨ru, ?_, ?_, m1, m2, fun _ _ => rfl⟩
    · simp only [fn_Machines_steer, if_pos ki4, if_pos cl, if_pos cu, if_neg ct, if_neg kd2, if_neg kd3, if_neg pu_n0, if_pos pu_z0, pu_b1, pu_nb0, pu_nb1] <;> rfl
    · rw [← n8]
      simp only [fn_Model_works, if_neg kd1, if_neg kd2, if_neg kd3, if_neg kd4, if_neg pu_n0, if_pos pu_z0, if_pos ki4, if_pos ki12, pu_b1, pu_b2, pu_mdeg hv, pu_mdam hv, hN.1, hN.2.1, if_pos cl, if_pos cu, if_neg ct] <;> rfl
  · refine ⟨ru, ?_, ?_, Or.inl (m2 ct), m2, fun _ _ => rfl⟩
    · simp only [fn_Machines_steer, if_pos ki4, if_pos cl, if_neg cu, if_pos ct, if_neg kd2, if_neg kd3, if_neg pu_n0, if_pos pu_z0, pu_b1, pu_nb0, pu_nb1] <;> rfl
    · have q0 : ru 1 = 0 := m2 ct
      rw [q0]
      simp only [fn_Model_works, if_neg kd1, if_neg kd2, if_neg kd3, if_neg kd4, if_neg pu_n0, if_pos pu_z0, if_pos ki4, if_pos ki12, pu_b1, pu_b2, pu_mdeg hv, pu_mdam hv, hN.1, hN.2.1, if_pos cl, if_neg cu, if_pos ct] <;> rfl
  · refine ⟨(upd ru 1 1), ?_, ?_, Or.inr pk_us, (fun hh => absurd hh ct), fun j hj => pk_un hj⟩
    · simp only [fn_Machines_steer, if_pos ki4, if_pos cl, if_neg cu, if_neg ct, if_neg kd2, if_neg kd3, if_neg pu_n0, if_pos pu_z0, pu_b1, pu_nb0, pu_nb1] <;> rfl
    · rw [show upd ru 1 1 1 = 1 from pk_us]
      simp only [fn_Model_works, if_neg kd1, if_neg kd2, if_neg kd3, if_neg kd4, if_neg pu_n0, if_pos pu_z0, if_pos ki4, if_pos ki12, pu_b1, pu_b2, pu_mdeg hv, pu_mdam hv, hN.1, hN.2.1, if_pos cl, if_neg cu, if_neg ct] <;> rfl
  · refine ⟨ru, ?_, ?_, Or.inl (m2 ct), m2, fun _ _ => rfl⟩
    · simp only [fn_Machines_steer, if_pos ki4, if_neg cl, if_pos cu, if_pos ct, if_neg kd2, if_neg kd3, if_neg pu_n0, if_pos pu_z0, pu_b1, pu_nb0, pu_nb1] <;> rfl
    · have q0 : ru 1 = 0 := m2 ct
      rw [q0]
      simp only [fn_Model_works, if_neg kd1, if_neg kd2, if_neg kd3, if_neg kd4, if_neg pu_n0, if_pos pu_z0, if_pos ki4, if_pos ki12, pu_b1, pu_b2, pu_mdeg hv, pu_mdam hv, hN.1, hN.2.1, if_neg cl, if_pos cu, if_pos ct] <;> rfl
  · refine ⟨(upd ru 1 0), ?_, ?_, Or.inl pk_us, (fun hh => absurd hh ct), fun j hj => pk_un hj⟩
    · simp only [fn_Machines_steer, if_pos ki4, if_neg cl, if_pos cu, if_neg ct, if_neg kd2, if_neg kd3, if_neg pu_n0, if_pos pu_z0, pu_b1, pu_nb0, pu_nb1] <;> rfl
    · rw [show upd ru 1 0 1 = 0 from pk_us]
      simp only [fn_Model_works, if_neg kd1, if_neg kd2, if_neg kd3, if_neg kd4, if_neg pu_n0, if_pos pu_z0, if_pos ki4, if_pos ki12, pu_b1, pu_b2, pu_mdeg hv, pu_mdam hv, hN.1, hN.2.1, if_neg cl, if_pos cu, if_neg ct] <;> rfl
  · refine ⟨ru, ?_, ?_, Or.inl (m2 ct), m2, fun _ _ => rfl⟩
    · simp only [fn_Machines_steer, if_pos ki4, if_neg cl, if_neg cu, if_pos ct, if_neg kd2, if_neg kd3, if_neg pu_n0, if_pos pu_z0, pu_b1, pu_nb0, pu_nb1] <;> rfl
    · have q0 : ru 1 = 0 := m2 ct
      rw [q0]
      simp only [fn_Model_works, if_neg kd1, if_neg kd2, if_neg kd3, if_neg kd4, if_neg pu_n0, if_pos pu_z0, if_pos ki4, if_pos ki12, pu_b1, pu_b2, pu_mdeg hv, pu_mdam hv, hN.1, hN.2.1, if_neg cl, if_neg cu, if_pos ct] <;> rfl
  · exfalso
    rw [lg_cmp_ge, Int64.le_iff_toInt_le, Int32.toInt_toInt64] at cl
    rw [lg_cmp_le, Int64.le_iff_toInt_le, Int32.toInt_toInt64] at cu
    have m5 := Int32.le_iff_toInt_le.1 (m3 ct)
    have cl : ¬ (lo 1).toInt ≤ (pu_by h v.toInt64).toInt := cl
    have cu : ¬ (pu_by h v.toInt64).toInt ≤ (hi 1).toInt := cu
    omega
theorem pu_wk2 {h w g : Int64} {F : Nat → Int64} {ru : Nat → Int32} {now : Nat → Int64} {lo hi ra to : Nat → Int32} {v : Int32} (hv : 0 < v.toInt) (hN : pu_Rnow h w g F ru now) (hM : pu_Mok lo hi ra to ru) : ∃ ru' : Nat → Int32, fn_Machines_steer to lo hi ru (2 : Int32) (pu_by w v.toInt64) = some ru' ∧ fn_Model_works v now hi lo to ra (2 : Int32) = some ((ru' 2).toInt64 * (ra 2).toInt64, vp_updL now (8 + 2) (ru' 2).toInt64) ∧ (ru' 2 = 0 ∨ ru' 2 = 1) ∧ (to 2 = 0 → ru' 2 = 0) ∧ ∀ j, j ≠ 2 → ru' j = ru j := by
  have kd1 : (2 : Int32) ≤ (2 : Int32) := by decide
  have kd2 : ¬ (2 : Int32) = 0 := by decide
  have kd3 : (2 : Int32) = (2 : Int32) := by decide
  have kd4 : ¬ (2 : Int32) = (3 : Int32) := by decide
  have ki4 : gx_ix (2 : Int32) 4 = true := by decide
  have ki12 : gx_ix ((8 : Int32) + (2 : Int32)) 12 = true := by decide
  obtain ⟨m1, m2, m3, m4⟩ := hM 2 (by decide)
  have n8 : now (8 + 2) = (ru 2).toInt64 := hN.2.2.2.2 2 (by decide)
  by_cases cl : 0 ≤ lg_cmp (pu_by w v.toInt64) (lo ((2 : Int32).toNatClampNeg)).toInt64 <;> by_cases cu : lg_cmp (pu_by w v.toInt64) (hi ((2 : Int32).toNatClampNeg)).toInt64 ≤ 0 <;> by_cases ct : to ((2 : Int32).toNatClampNeg) = 0
  · refine ⟨ru, ?_, ?_, Or.inl (m2 ct), m2, fun _ _ => rfl⟩
    · simp only [fn_Machines_steer, if_pos ki4, if_pos cl, if_pos cu, if_pos ct, if_neg kd2, if_pos kd3, if_neg pu_n0, if_pos pu_z0, pu_b1, pu_nb0, pu_nb1] <;> rfl
    · have q0 : ru 2 = 0 := m2 ct
      rw [q0]
      simp only [fn_Model_works, if_pos kd1, if_neg kd2, if_pos kd3, if_neg kd4, if_neg pu_n0, if_pos pu_z0, if_pos ki4, if_pos ki12, pu_b1, pu_b2, pu_mdeg hv, pu_mdam hv, hN.1, hN.2.1, if_pos cl, if_pos cu, if_pos ct] <;> rfl
  · refine ⟨ru, ?_, ?_, m1, m2, fun _ _ => rfl⟩
    · simp only [fn_Machines_steer, if_pos ki4, if_pos cl, if_pos cu, if_neg ct, if_neg kd2, if_pos kd3, if_neg pu_n0, if_pos pu_z0, pu_b1, pu_nb0, pu_nb1] <;> rfl
    · rw [← n8]
      simp only [fn_Model_works, if_pos kd1, if_neg kd2, if_pos kd3, if_neg kd4, if_neg pu_n0, if_pos pu_z0, if_pos ki4, if_pos ki12, pu_b1, pu_b2, pu_mdeg hv, pu_mdam hv, hN.1, hN.2.1, if_pos cl, if_pos cu, if_neg ct] <;> rfl
  · refine ⟨ru, ?_, ?_, Or.inl (m2 ct), m2, fun _ _ => rfl⟩
    · simp only [fn_Machines_steer, if_pos ki4, if_pos cl, if_neg cu, if_pos ct, if_neg kd2, if_pos kd3, if_neg pu_n0, if_pos pu_z0, pu_b1, pu_nb0, pu_nb1] <;> rfl
    · have q0 : ru 2 = 0 := m2 ct
      rw [q0]
      simp only [fn_Model_works, if_pos kd1, if_neg kd2, if_pos kd3, if_neg kd4, if_neg pu_n0, if_pos pu_z0, if_pos ki4, if_pos ki12, pu_b1, pu_b2, pu_mdeg hv, pu_mdam hv, hN.1, hN.2.1, if_pos cl, if_neg cu, if_pos ct] <;> rfl
  · refine ⟨(upd ru 2 0), ?_, ?_, Or.inl pk_us, (fun hh => absurd hh ct), fun j hj => pk_un hj⟩
    · simp only [fn_Machines_steer, if_pos ki4, if_pos cl, if_neg cu, if_neg ct, if_neg kd2, if_pos kd3, if_neg pu_n0, if_pos pu_z0, pu_b1, pu_nb0, pu_nb1] <;> rfl
    · rw [show upd ru 2 0 2 = 0 from pk_us]
      simp only [fn_Model_works, if_pos kd1, if_neg kd2, if_pos kd3, if_neg kd4, if_neg pu_n0, if_pos pu_z0, if_pos ki4, if_pos ki12, pu_b1, pu_b2, pu_mdeg hv, pu_mdam hv, hN.1, hN.2.1, if_pos cl, if_neg cu, if_neg ct] <;> rfl
  · refine ⟨ru, ?_, ?_, Or.inl (m2 ct), m2, fun _ _ => rfl⟩
    · simp only [fn_Machines_steer, if_pos ki4, if_neg cl, if_pos cu, if_pos ct, if_neg kd2, if_pos kd3, if_neg pu_n0, if_pos pu_z0, pu_b1, pu_nb0, pu_nb1] <;> rfl
    · have q0 : ru 2 = 0 := m2 ct
      rw [q0]
      simp only [fn_Model_works, if_pos kd1, if_neg kd2, if_pos kd3, if_neg kd4, if_neg pu_n0, if_pos pu_z0, if_pos ki4, if_pos ki12, pu_b1, pu_b2, pu_mdeg hv, pu_mdam hv, hN.1, hN.2.1, if_neg cl, if_pos cu, if_pos ct] <;> rfl
  · refine ⟨(upd ru 2 1), ?_, ?_, Or.inr pk_us, (fun hh => absurd hh ct), fun j hj => pk_un hj⟩
    · simp only [fn_Machines_steer, if_pos ki4, if_neg cl, if_pos cu, if_neg ct, if_neg kd2, if_pos kd3, if_neg pu_n0, if_pos pu_z0, pu_b1, pu_nb0, pu_nb1] <;> rfl
    · rw [show upd ru 2 1 2 = 1 from pk_us]
      simp only [fn_Model_works, if_pos kd1, if_neg kd2, if_pos kd3, if_neg kd4, if_neg pu_n0, if_pos pu_z0, if_pos ki4, if_pos ki12, pu_b1, pu_b2, pu_mdeg hv, pu_mdam hv, hN.1, hN.2.1, if_neg cl, if_pos cu, if_neg ct] <;> rfl
  · refine ⟨ru, ?_, ?_, Or.inl (m2 ct), m2, fun _ _ => rfl⟩
    · simp only [fn_Machines_steer, if_pos ki4, if_neg cl, if_neg cu, if_pos ct, if_neg kd2, if_pos kd3, if_neg pu_n0, if_pos pu_z0, pu_b1, pu_nb0, pu_nb1] <;> rfl
    · have q0 : ru 2 = 0 := m2 ct
      rw [q0]
      simp only [fn_Model_works, if_pos kd1, if_neg kd2, if_pos kd3, if_neg kd4, if_neg pu_n0, if_pos pu_z0, if_pos ki4, if_pos ki12, pu_b1, pu_b2, pu_mdeg hv, pu_mdam hv, hN.1, hN.2.1, if_neg cl, if_neg cu, if_pos ct] <;> rfl
  · exfalso
    rw [lg_cmp_ge, Int64.le_iff_toInt_le, Int32.toInt_toInt64] at cl
    rw [lg_cmp_le, Int64.le_iff_toInt_le, Int32.toInt_toInt64] at cu
    have m5 := Int32.le_iff_toInt_le.1 (m3 ct)
    have cl : ¬ (lo 2).toInt ≤ (pu_by w v.toInt64).toInt := cl
    have cu : ¬ (pu_by w v.toInt64).toInt ≤ (hi 2).toInt := cu
    omega
theorem pu_wk3 {h w g : Int64} {F : Nat → Int64} {ru : Nat → Int32} {now : Nat → Int64} {lo hi ra to : Nat → Int32} {v : Int32} (hv : 0 < v.toInt) (hN : pu_Rnow h w g F ru now) (hM : pu_Mok lo hi ra to ru) : ∃ ru' : Nat → Int32, fn_Machines_steer to lo hi ru (3 : Int32) (pu_by w v.toInt64) = some ru' ∧ fn_Model_works v now hi lo to ra (3 : Int32) = some ((if (ru' 3).toInt64 * (ra 3).toInt64 ≤ w then (ru' 3).toInt64 * (ra 3).toInt64 else w), vp_updL now (8 + 3) (ru' 3).toInt64) ∧ (ru' 3 = 0 ∨ ru' 3 = 1) ∧ (to 3 = 0 → ru' 3 = 0) ∧ ∀ j, j ≠ 3 → ru' j = ru j := by
  have kd1 : (2 : Int32) ≤ (3 : Int32) := by decide
  have kd2 : ¬ (3 : Int32) = 0 := by decide
  have kd3 : ¬ (3 : Int32) = (2 : Int32) := by decide
  have kd4 : (3 : Int32) = (3 : Int32) := by decide
  have ki4 : gx_ix (3 : Int32) 4 = true := by decide
  have ki12 : gx_ix ((8 : Int32) + (3 : Int32)) 12 = true := by decide
  have ki1 : gx_ix (1 : Int32) 12 = true := by decide
  obtain ⟨m1, m2, m3, m4⟩ := hM 3 (by decide)
  have n8 : now (8 + 3) = (ru 3).toInt64 := hN.2.2.2.2 3 (by decide)
  by_cases cl : 0 ≤ lg_cmp (pu_by w v.toInt64) (lo ((3 : Int32).toNatClampNeg)).toInt64 <;> by_cases cu : lg_cmp (pu_by w v.toInt64) (hi ((3 : Int32).toNatClampNeg)).toInt64 ≤ 0 <;> by_cases ct : to ((3 : Int32).toNatClampNeg) = 0
  · refine ⟨ru, ?_, ?_, Or.inl (m2 ct), m2, fun _ _ => rfl⟩
    · simp only [fn_Machines_steer, if_pos ki4, if_pos cl, if_pos cu, if_pos ct, if_neg kd2, if_neg kd3, if_neg pu_n0, if_pos pu_z0, pu_b1, pu_nb0, pu_nb1] <;> rfl
    · have q0 : ru 3 = 0 := m2 ct
      rw [q0]
      have k1 : ∀ y : Int64, vp_updL now ((8 : Int32) + 3).toNatClampNeg y (1 : Int32).toNatClampNeg = w := fun y => hN.2.1
      have k8 : ∀ y : Int64, vp_updL now ((8 : Int32) + 3).toNatClampNeg y ((8 : Int32) + 3).toNatClampNeg = y := fun y => pk_uLs
      simp only [fn_Model_works, if_pos kd1, if_neg kd2, if_neg kd3, if_pos kd4, if_neg pu_n0, if_pos pu_z0, if_pos ki4, if_pos ki12, pu_b1, pu_b2, pu_mdeg hv, pu_mdam hv, hN.1, hN.2.1, if_pos ki1, if_pos cl, if_pos cu, if_pos ct, k1, k8]
      exact pu_w3 _ _ _
  · refine ⟨ru, ?_, ?_, m1, m2, fun _ _ => rfl⟩
    · simp only [fn_Machines_steer, if_pos ki4, if_pos cl, if_pos cu, if_neg ct, if_neg kd2, if_neg kd3, if_neg pu_n0, if_pos pu_z0, pu_b1, pu_nb0, pu_nb1] <;> rfl
    · rw [← n8]
      have k1 : ∀ y : Int64, vp_updL now ((8 : Int32) + 3).toNatClampNeg y (1 : Int32).toNatClampNeg = w := fun y => hN.2.1
      have k8 : ∀ y : Int64, vp_updL now ((8 : Int32) + 3).toNatClampNeg y ((8 : Int32) + 3).toNatClampNeg = y := fun y => pk_uLs
      simp only [fn_Model_works, if_pos kd1, if_neg kd2, if_neg kd3, if_pos kd4, if_neg pu_n0, if_pos pu_z0, if_pos ki4, if_pos ki12, pu_b1, pu_b2, pu_mdeg hv, pu_mdam hv, hN.1, hN.2.1, if_pos ki1, if_pos cl, if_pos cu, if_neg ct, k1, k8]
      exact pu_w3 _ _ _
  · refine ⟨ru, ?_, ?_, Or.inl (m2 ct), m2, fun _ _ => rfl⟩
    · simp only [fn_Machines_steer, if_pos ki4, if_pos cl, if_neg cu, if_pos ct, if_neg kd2, if_neg kd3, if_neg pu_n0, if_pos pu_z0, pu_b1, pu_nb0, pu_nb1] <;> rfl
    · have q0 : ru 3 = 0 := m2 ct
      rw [q0]
      have k1 : ∀ y : Int64, vp_updL now ((8 : Int32) + 3).toNatClampNeg y (1 : Int32).toNatClampNeg = w := fun y => hN.2.1
      have k8 : ∀ y : Int64, vp_updL now ((8 : Int32) + 3).toNatClampNeg y ((8 : Int32) + 3).toNatClampNeg = y := fun y => pk_uLs
      simp only [fn_Model_works, if_pos kd1, if_neg kd2, if_neg kd3, if_pos kd4, if_neg pu_n0, if_pos pu_z0, if_pos ki4, if_pos ki12, pu_b1, pu_b2, pu_mdeg hv, pu_mdam hv, hN.1, hN.2.1, if_pos ki1, if_pos cl, if_neg cu, if_pos ct, k1, k8]
      exact pu_w3 _ _ _
  · refine ⟨(upd ru 3 1), ?_, ?_, Or.inr pk_us, (fun hh => absurd hh ct), fun j hj => pk_un hj⟩
    · simp only [fn_Machines_steer, if_pos ki4, if_pos cl, if_neg cu, if_neg ct, if_neg kd2, if_neg kd3, if_neg pu_n0, if_pos pu_z0, pu_b1, pu_nb0, pu_nb1] <;> rfl
    · rw [show upd ru 3 1 3 = 1 from pk_us]
      have k1 : ∀ y : Int64, vp_updL now ((8 : Int32) + 3).toNatClampNeg y (1 : Int32).toNatClampNeg = w := fun y => hN.2.1
      have k8 : ∀ y : Int64, vp_updL now ((8 : Int32) + 3).toNatClampNeg y ((8 : Int32) + 3).toNatClampNeg = y := fun y => pk_uLs
      simp only [fn_Model_works, if_pos kd1, if_neg kd2, if_neg kd3, if_pos kd4, if_neg pu_n0, if_pos pu_z0, if_pos ki4, if_pos ki12, pu_b1, pu_b2, pu_mdeg hv, pu_mdam hv, hN.1, hN.2.1, if_pos ki1, if_pos cl, if_neg cu, if_neg ct, k1, k8]
      exact pu_w3 _ _ _
  · refine ⟨ru, ?_, ?_, Or.inl (m2 ct), m2, fun _ _ => rfl⟩
    · simp only [fn_Machines_steer, if_pos ki4, if_neg cl, if_pos cu, if_pos ct, if_neg kd2, if_neg kd3, if_neg pu_n0, if_pos pu_z0, pu_b1, pu_nb0, pu_nb1] <;> rfl
    · have q0 : ru 3 = 0 := m2 ct
      rw [q0]
      have k1 : ∀ y : Int64, vp_updL now ((8 : Int32) + 3).toNatClampNeg y (1 : Int32).toNatClampNeg = w := fun y => hN.2.1
      have k8 : ∀ y : Int64, vp_updL now ((8 : Int32) + 3).toNatClampNeg y ((8 : Int32) + 3).toNatClampNeg = y := fun y => pk_uLs
      simp only [fn_Model_works, if_pos kd1, if_neg kd2, if_neg kd3, if_pos kd4, if_neg pu_n0, if_pos pu_z0, if_pos ki4, if_pos ki12, pu_b1, pu_b2, pu_mdeg hv, pu_mdam hv, hN.1, hN.2.1, if_pos ki1, if_neg cl, if_pos cu, if_pos ct, k1, k8]
      exact pu_w3 _ _ _
  · refine ⟨(upd ru 3 0), ?_, ?_, Or.inl pk_us, (fun hh => absurd hh ct), fun j hj => pk_un hj⟩
    · simp only [fn_Machines_steer, if_pos ki4, if_neg cl, if_pos cu, if_neg ct, if_neg kd2, if_neg kd3, if_neg pu_n0, if_pos pu_z0, pu_b1, pu_nb0, pu_nb1] <;> rfl
    · rw [show upd ru 3 0 3 = 0 from pk_us]
      have k1 : ∀ y : Int64, vp_updL now ((8 : Int32) + 3).toNatClampNeg y (1 : Int32).toNatClampNeg = w := fun y => hN.2.1
      have k8 : ∀ y : Int64, vp_updL now ((8 : Int32) + 3).toNatClampNeg y ((8 : Int32) + 3).toNatClampNeg = y := fun y => pk_uLs
      simp only [fn_Model_works, if_pos kd1, if_neg kd2, if_neg kd3, if_pos kd4, if_neg pu_n0, if_pos pu_z0, if_pos ki4, if_pos ki12, pu_b1, pu_b2, pu_mdeg hv, pu_mdam hv, hN.1, hN.2.1, if_pos ki1, if_neg cl, if_pos cu, if_neg ct, k1, k8]
      exact pu_w3 _ _ _
  · refine ⟨ru, ?_, ?_, Or.inl (m2 ct), m2, fun _ _ => rfl⟩
    · simp only [fn_Machines_steer, if_pos ki4, if_neg cl, if_neg cu, if_pos ct, if_neg kd2, if_neg kd3, if_neg pu_n0, if_pos pu_z0, pu_b1, pu_nb0, pu_nb1] <;> rfl
    · have q0 : ru 3 = 0 := m2 ct
      rw [q0]
      have k1 : ∀ y : Int64, vp_updL now ((8 : Int32) + 3).toNatClampNeg y (1 : Int32).toNatClampNeg = w := fun y => hN.2.1
      have k8 : ∀ y : Int64, vp_updL now ((8 : Int32) + 3).toNatClampNeg y ((8 : Int32) + 3).toNatClampNeg = y := fun y => pk_uLs
      simp only [fn_Model_works, if_pos kd1, if_neg kd2, if_neg kd3, if_pos kd4, if_neg pu_n0, if_pos pu_z0, if_pos ki4, if_pos ki12, pu_b1, pu_b2, pu_mdeg hv, pu_mdam hv, hN.1, hN.2.1, if_pos ki1, if_neg cl, if_neg cu, if_pos ct, k1, k8]
      exact pu_w3 _ _ _
  · exfalso
    rw [lg_cmp_ge, Int64.le_iff_toInt_le, Int32.toInt_toInt64] at cl
    rw [lg_cmp_le, Int64.le_iff_toInt_le, Int32.toInt_toInt64] at cu
    have m5 := Int32.le_iff_toInt_le.1 (m3 ct)
    have cl : ¬ (lo 3).toInt ≤ (pu_by w v.toInt64).toInt := cl
    have cu : ¬ (pu_by w v.toInt64).toInt ≤ (hi 3).toInt := cu
    omega
