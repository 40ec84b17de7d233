set_option maxHeartbeats 4000000 in
set_option maxRecDepth 100000 in
theorem vg_L {X : Nat × (Nat → Int32)} {σ σ1 σ2 σ3 σ4 σ5 s9 : St} (h1 : f_X1_tail 1 (zX1 1 (zr (zr σ 0 1) 1 1)) = some σ1) (h2 : f_X1_tail 10 (zX1 10 (zr σ1 10 1)) = some σ2) (h3 : f_X1_tail 19 (zX1 19 (zr σ2 19 1)) = some σ3) (h4 : f_X3_tail 0 (zX3 σ3) = some σ4) (h5 : f_X4_tail 53 (zX4 (zr σ4 53 1)) = some σ5) (h6 : f_L_law (uMZ, X) σ5 = some (1, s9)) :
    VG mL_law 200 X False uMZ s9 (some (.int 1)) 68 1845 0 [(0, .ref 5000)] [] [] σ := by
  refine g_new (N := 14) (q := 0) (S' := uO0) dL_law_0 kn_L_7 rfl rfl rfl (by decide) ?_
  refine g_dup dL_law_3 rfl ?_
  refine g_ci (mc := 52) (ms := 896) (S := uO0) (S' := uOZ) dL_law_4 ki_L_9 (Nat.le_of_ble_eq_true rfl) (by decide) (cg_X3 h1 h2 h3 h4) (by decide +kernel) (by decide +kernel) ?_
  refine g_astore_n (L' := [(1, .ref 0), (0, .ref 5000)]) dL_law_7 rfl (by decide) rfl ?_
  refine g_new (N := 26) (q := 53) (S' := uM0) dL_law_8 kn_L_10 (by decide +kernel) rfl rfl (by decide) ?_
  refine g_dup dL_law_11 rfl ?_
  refine g_ci (mc := 14) (ms := 909) (S := uM0) (S' := uMZ) dL_law_12 ki_L_12 (Nat.le_of_ble_eq_true rfl) (by decide) (cg_X4 h5) (by decide +kernel) (by decide +kernel) ?_
  refine g_astore_n (L' := [(2, .ref 53), (1, .ref 0), (0, .ref 5000)]) dL_law_15 rfl (by decide) rfl ?_
  exact g_enter (ι := jI) (z := (1, s9)) (w_L_law uMZ_O uMZ_M _) h6
