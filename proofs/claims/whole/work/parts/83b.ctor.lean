def FX0 : List (Option (Option Nat)) := [some none, none, none, none, none, none]
def FX1 : List (Option (Option Nat)) := [some none, none, none, some none, some none, some none, none, some none, some none, some none, some none, none]
def FX2 : List (Option (Option Nat)) := [some none, none, none, none]
def FX3 : List (Option (Option Nat)) := [some none, some none, some none, none, some none, some none, none, some none, some none, some none, some none, some none, some none, some none]
def FX4 : List (Option (Option Nat)) := [some none, some none, some none, none, none, some none, some none, none, none, none, none, none, some none, none, some none, none, some none, some none, some none, some none, some none, some none, some none, none, none, none]
theorem kar_int : Cond.arrayClass (newarray.typeOf .int) ∈ TB := TB_t 86 (by decide +kernel) (by decide +kernel)
theorem kar_byte : Cond.arrayClass (newarray.typeOf .byte) ∈ TB := TB_t 107 (by decide +kernel) (by decide +kernel)
theorem kar_char : Cond.arrayClass (newarray.typeOf .char) ∈ TB := TB_t 864 (by decide +kernel) (by decide +kernel)
theorem kar_long : Cond.arrayClass (newarray.typeOf .long) ∈ TB := TB_t 139 (by decide +kernel) (by decide +kernel)
section APP
variable {T l : List Sh} {b : Nat} {c c' : Sh}
theorem app_len (hb : T.length = b) : (T ++ l).length = b + l.length := by rw [List.length_append, hb]
theorem app_get (hb : T.length = b) (i : Nat) : (T ++ l)[b + i]? = l[i]? := by subst hb; rw [List.getElem?_append_right (Nat.le_add_right _ _), Nat.add_sub_cancel_left]
theorem app_get0 (hb : T.length = b) : (T ++ (c :: l))[b]? = some c := app_get hb 0
theorem app_set0 (hb : T.length = b) : (T ++ (c :: l)).set b c' = T ++ (c' :: l) := by subst hb; rw [List.set_append_right _ _ (Nat.le_refl _), Nat.sub_self]; rfl
end APP
theorem ko_X1 : GO RX1 3 := ⟨(TB_t 27 (by decide +kernel) (by decide +kernel)), (TB_t 20 (by decide +kernel) (by decide +kernel)), (TB_t 21 (by decide +kernel) (by decide +kernel))⟩
theorem kq_X1_9 : GQ RX1 9 1 0 (.array .int) := ⟨RX1, TX1, 12, tyX1, rfl, iX1, by decide, (TB_t 34 (by decide +kernel) (by decide +kernel)), tyX1_ok, nmX1, (by decide +kernel), (by decide +kernel), (by decide +kernel), Or.inr ⟨_, rfl⟩⟩
theorem kq_X1_15 : GQ RX1 15 1 3 (.array .int) := ⟨RX1, TX1, 12, tyX1, rfl, iX1, by decide, (TB_t 41 (by decide +kernel) (by decide +kernel)), tyX1_ok, nmX1, (by decide +kernel), (by decide +kernel), (by decide +kernel), Or.inr ⟨_, rfl⟩⟩
theorem kq_X1_18 : GQ RX1 18 1 4 (.array .int) := ⟨RX1, TX1, 12, tyX1, rfl, iX1, by decide, (TB_t 43 (by decide +kernel) (by decide +kernel)), tyX1_ok, nmX1, (by decide +kernel), (by decide +kernel), (by decide +kernel), Or.inr ⟨_, rfl⟩⟩
theorem kq_X1_21 : GQ RX1 21 1 5 (.array .int) := ⟨RX1, TX1, 12, tyX1, rfl, iX1, by decide, (TB_t 46 (by decide +kernel) (by decide +kernel)), tyX1_ok, nmX1, (by decide +kernel), (by decide +kernel), (by decide +kernel), Or.inr ⟨_, rfl⟩⟩
theorem kq_X1_24 : GQ RX1 24 1 7 (.array .int) := ⟨RX1, TX1, 12, tyX1, rfl, iX1, by decide, (TB_t 51 (by decide +kernel) (by decide +kernel)), tyX1_ok, nmX1, (by decide +kernel), (by decide +kernel), (by decide +kernel), Or.inr ⟨_, rfl⟩⟩
theorem kq_X1_27 : GQ RX1 27 1 8 (.array .int) := ⟨RX1, TX1, 12, tyX1, rfl, iX1, by decide, (TB_t 53 (by decide +kernel) (by decide +kernel)), tyX1_ok, nmX1, (by decide +kernel), (by decide +kernel), (by decide +kernel), Or.inr ⟨_, rfl⟩⟩
theorem kq_X1_30 : GQ RX1 30 1 9 (.array .int) := ⟨RX1, TX1, 12, tyX1, rfl, iX1, by decide, (TB_t 55 (by decide +kernel) (by decide +kernel)), tyX1_ok, nmX1, (by decide +kernel), (by decide +kernel), (by decide +kernel), Or.inr ⟨_, rfl⟩⟩
theorem kq_X1_33 : GQ RX1 33 1 10 (.array .int) := ⟨RX1, TX1, 12, tyX1, rfl, iX1, by decide, (TB_t 57 (by decide +kernel) (by decide +kernel)), tyX1_ok, nmX1, (by decide +kernel), (by decide +kernel), (by decide +kernel), Or.inr ⟨_, rfl⟩⟩
def uX1 (b : Nat) : List Sh := [.inl (1, [some (some (b + 1)), none, none, some (some (b + 2)), some (some (b + 3)), some (some (b + 4)), none, some (some (b + 5)), some (some (b + 6)), some (some (b + 7)), some (some (b + 8)), none]), .inr (0, 4, []), .inr (0, 32, []), .inr (0, 32, []), .inr (0, 32, []), .inr (0, 8, []), .inr (0, 8, []), .inr (0, 8, []), .inr (0, 8, [])]
def zX1 (b : Nat) (σ : St) : St := (zr (zr (zr (zr (zr (zr (zr (zr σ (b + 1) 1) (b + 2) 1) (b + 3) 1) (b + 4) 1) (b + 5) 1) (b + 6) 1) (b + 7) 1) (b + 8) 1)
theorem isMoor_app {T : List Sh} {b : Nat} {X : Nat × (Nat → Int32)} (hb : T.length = b) : isMoor (T ++ uX1 b, X) b := ⟨app_get hb 0, app_get hb 1, app_get hb 2, app_get hb 3, app_get hb 4, app_get hb 5, app_get hb 6, app_get hb 7, app_get hb 8⟩
set_option maxHeartbeats 4000000 in
set_option maxRecDepth 100000 in
theorem cg_X1 {X : Nat × (Nat → Int32)} {T : List Sh} {b : Nat} (hb : T.length = b) (hl : b + 9 ≤ 900) {σ σ1 : St} (h : f_X1_tail b (zX1 b σ) = some σ1) : CG yX1_init mX1_init 1 X 8 132 [.ref b] (T ++ [.inl (1, FX1)]) σ (T ++ uX1 b) σ1 := by
  refine CG.of (by decide +kernel) rfl rfl (fun E => Nat.le_of_ble_eq_true rfl) ?_
  show VG mX1_init 1 X True (T ++ uX1 b) σ1 none 8 132 0 [(0, .ref b)] [] (T ++ [.inl (1, [some none, none, none, some none, some none, some none, none, some none, some none, some none, some none, none])]) σ
  refine g_aload_n dX1_init_0 rfl rfl ?_
  refine g_oinit dX1_init_1 ko_X1 (Nat.le_of_ble_eq_true rfl) (by decide) ?_
  refine g_aload_n dX1_init_4 rfl rfl ?_
  refine g_iconst (v := 4) dX1_init_5 (by decide +kernel) ?_
  refine g_newa (t := 0) (N := 4) (q := b + 1) (S' := T ++ [.inl (1, [some none, none, none, some none, some none, some none, none, some none, some none, some none, some none, none]), .inr (0, 4, [])]) dX1_init_6 kar_int (fun _ => rfl) (Or.inl ⟨by decide, rfl⟩) (by decide) (by decide +kernel) (by decide) (app_len hb) (List.append_assoc _ _ _) rfl (by omega) ?_
  refine g_putF (j := 0) (S' := T ++ [.inl (1, [some (some (b + 1)), none, none, some none, some none, some none, none, some none, some none, some none, some none, none]), .inr (0, 4, [])]) trivial dX1_init_8 kq_X1_9 (app_get0 hb) rfl (app_set0 hb) ?_
  refine g_aload_n dX1_init_11 rfl rfl ?_
  refine g_bipush (v := 32) dX1_init_12 (by decide +kernel) ?_
  refine g_newa (t := 0) (N := 32) (q := b + 2) (S' := T ++ [.inl (1, [some (some (b + 1)), none, none, some none, some none, some none, none, some none, some none, some none, some none, none]), .inr (0, 4, []), .inr (0, 32, [])]) dX1_init_14 kar_int (fun _ => rfl) (Or.inl ⟨by decide, rfl⟩) (by decide) (by decide +kernel) (by decide) (app_len hb) (List.append_assoc _ _ _) rfl (by omega) ?_
  refine g_putF (j := 3) (S' := T ++ [.inl (1, [some (some (b + 1)), none, none, some (some (b + 2)), some none, some none, none, some none, some none, some none, some none, none]), .inr (0, 4, []), .inr (0, 32, [])]) trivial dX1_init_16 kq_X1_15 (app_get0 hb) rfl (app_set0 hb) ?_
  refine g_aload_n dX1_init_19 rfl rfl ?_
  refine g_bipush (v := 32) dX1_init_20 (by decide +kernel) ?_
  refine g_newa (t := 0) (N := 32) (q := b + 3) (S' := T ++ [.inl (1, [some (some (b + 1)), none, none, some (some (b + 2)), some none, some none, none, some none, some none, some none, some none, none]), .inr (0, 4, []), .inr (0, 32, []), .inr (0, 32, [])]) dX1_init_22 kar_int (fun _ => rfl) (Or.inl ⟨by decide, rfl⟩) (by decide) (by decide +kernel) (by decide) (app_len hb) (List.append_assoc _ _ _) rfl (by omega) ?_
  refine g_putF (j := 4) (S' := T ++ [.inl (1, [some (some (b + 1)), none, none, some (some (b + 2)), some (some (b + 3)), some none, none, some none, some none, some none, some none, none]), .inr (0, 4, []), .inr (0, 32, []), .inr (0, 32, [])]) trivial dX1_init_24 kq_X1_18 (app_get0 hb) rfl (app_set0 hb) ?_
  refine g_aload_n dX1_init_27 rfl rfl ?_
  refine g_bipush (v := 32) dX1_init_28 (by decide +kernel) ?_
  refine g_newa (t := 0) (N := 32) (q := b + 4) (S' := T ++ [.inl (1, [some (some (b + 1)), none, none, some (some (b + 2)), some (some (b + 3)), some none, none, some none, some none, some none, some none, none]), .inr (0, 4, []), .inr (0, 32, []), .inr (0, 32, []), .inr (0, 32, [])]) dX1_init_30 kar_int (fun _ => rfl) (Or.inl ⟨by decide, rfl⟩) (by decide) (by decide +kernel) (by decide) (app_len hb) (List.append_assoc _ _ _) rfl (by omega) ?_
  refine g_putF (j := 5) (S' := T ++ [.inl (1, [some (some (b + 1)), none, none, some (some (b + 2)), some (some (b + 3)), some (some (b + 4)), none, some none, some none, some none, some none, none]), .inr (0, 4, []), .inr (0, 32, []), .inr (0, 32, []), .inr (0, 32, [])]) trivial dX1_init_32 kq_X1_21 (app_get0 hb) rfl (app_set0 hb) ?_
  refine g_aload_n dX1_init_35 rfl rfl ?_
  refine g_bipush (v := 8) dX1_init_36 (by decide +kernel) ?_
  refine g_newa (t := 0) (N := 8) (q := b + 5) (S' := T ++ [.inl (1, [some (some (b + 1)), none, none, some (some (b + 2)), some (some (b + 3)), some (some (b + 4)), none, some none, some none, some none, some none, none]), .inr (0, 4, []), .inr (0, 32, []), .inr (0, 32, []), .inr (0, 32, []), .inr (0, 8, [])]) dX1_init_38 kar_int (fun _ => rfl) (Or.inl ⟨by decide, rfl⟩) (by decide) (by decide +kernel) (by decide) (app_len hb) (List.append_assoc _ _ _) rfl (by omega) ?_
  refine g_putF (j := 7) (S' := T ++ [.inl (1, [some (some (b + 1)), none, none, some (some (b + 2)), some (some (b + 3)), some (some (b + 4)), none, some (some (b + 5)), some none, some none, some none, none]), .inr (0, 4, []), .inr (0, 32, []), .inr (0, 32, []), .inr (0, 32, []), .inr (0, 8, [])]) trivial dX1_init_40 kq_X1_24 (app_get0 hb) rfl (app_set0 hb) ?_
  refine g_aload_n dX1_init_43 rfl rfl ?_
  refine g_bipush (v := 8) dX1_init_44 (by decide +kernel) ?_
  refine g_newa (t := 0) (N := 8) (q := b + 6) (S' := T ++ [.inl (1, [some (some (b + 1)), none, none, some (some (b + 2)), some (some (b + 3)), some (some (b + 4)), none, some (some (b + 5)), some none, some none, some none, none]), .inr (0, 4, []), .inr (0, 32, []), .inr (0, 32, []), .inr (0, 32, []), .inr (0, 8, []), .inr (0, 8, [])]) dX1_init_46 kar_int (fun _ => rfl) (Or.inl ⟨by decide, rfl⟩) (by decide) (by decide +kernel) (by decide) (app_len hb) (List.append_assoc _ _ _) rfl (by omega) ?_
  refine g_putF (j := 8) (S' := T ++ [.inl (1, [some (some (b + 1)), none, none, some (some (b + 2)), some (some (b + 3)), some (some (b + 4)), none, some (some (b + 5)), some (some (b + 6)), some none, some none, none]), .inr (0, 4, []), .inr (0, 32, []), .inr (0, 32, []), .inr (0, 32, []), .inr (0, 8, []), .inr (0, 8, [])]) trivial dX1_init_48 kq_X1_27 (app_get0 hb) rfl (app_set0 hb) ?_
  refine g_aload_n dX1_init_51 rfl rfl ?_
  refine g_bipush (v := 8) dX1_init_52 (by decide +kernel) ?_
  refine g_newa (t := 0) (N := 8) (q := b + 7) (S' := T ++ [.inl (1, [some (some (b + 1)), none, none, some (some (b + 2)), some (some (b + 3)), some (some (b + 4)), none, some (some (b + 5)), some (some (b + 6)), some none, some none, none]), .inr (0, 4, []), .inr (0, 32, []), .inr (0, 32, []), .inr (0, 32, []), .inr (0, 8, []), .inr (0, 8, []), .inr (0, 8, [])]) dX1_init_54 kar_int (fun _ => rfl) (Or.inl ⟨by decide, rfl⟩) (by decide) (by decide +kernel) (by decide) (app_len hb) (List.append_assoc _ _ _) rfl (by omega) ?_
  refine g_putF (j := 9) (S' := T ++ [.inl (1, [some (some (b + 1)), none, none, some (some (b + 2)), some (some (b + 3)), some (some (b + 4)), none, some (some (b + 5)), some (some (b + 6)), some (some (b + 7)), some none, none]), .inr (0, 4, []), .inr (0, 32, []), .inr (0, 32, []), .inr (0, 32, []), .inr (0, 8, []), .inr (0, 8, []), .inr (0, 8, [])]) trivial dX1_init_56 kq_X1_30 (app_get0 hb) rfl (app_set0 hb) ?_
  refine g_aload_n dX1_init_59 rfl rfl ?_
  refine g_bipush (v := 8) dX1_init_60 (by decide +kernel) ?_
  refine g_newa (t := 0) (N := 8) (q := b + 8) (S' := T ++ [.inl (1, [some (some (b + 1)), none, none, some (some (b + 2)), some (some (b + 3)), some (some (b + 4)), none, some (some (b + 5)), some (some (b + 6)), some (some (b + 7)), some none, none]), .inr (0, 4, []), .inr (0, 32, []), .inr (0, 32, []), .inr (0, 32, []), .inr (0, 8, []), .inr (0, 8, []), .inr (0, 8, []), .inr (0, 8, [])]) dX1_init_62 kar_int (fun _ => rfl) (Or.inl ⟨by decide, rfl⟩) (by decide) (by decide +kernel) (by decide) (app_len hb) (List.append_assoc _ _ _) rfl (by omega) ?_
  refine g_putF (j := 10) (S' := T ++ [.inl (1, [some (some (b + 1)), none, none, some (some (b + 2)), some (some (b + 3)), some (some (b + 4)), none, some (some (b + 5)), some (some (b + 6)), some (some (b + 7)), some (some (b + 8)), none]), .inr (0, 4, []), .inr (0, 32, []), .inr (0, 32, []), .inr (0, 32, []), .inr (0, 8, []), .inr (0, 8, []), .inr (0, 8, []), .inr (0, 8, [])]) trivial dX1_init_64 kq_X1_33 (app_get0 hb) rfl (app_set0 hb) ?_
  exact g_enter (ι := jV) (z := σ1) (w_X1_tail b (isMoor_app hb) _) h
theorem ko_X2 : GO RX2 3 := ⟨(TB_t 92 (by decide +kernel) (by decide +kernel)), (TB_t 20 (by decide +kernel) (by decide +kernel)), (TB_t 21 (by decide +kernel) (by decide +kernel))⟩
theorem kq_X2_9 : GQ RX2 9 2 0 (.array .byte) := ⟨RX2, TX2, 4, tyX2, rfl, iX2, by decide, (TB_t 93 (by decide +kernel) (by decide +kernel)), tyX2_ok, nmX2, (by decide +kernel), (by decide +kernel), (by decide +kernel), Or.inr ⟨_, rfl⟩⟩
def uX2 (b : Nat) : List Sh := [.inl (2, [some (some (b + 1)), none, none, none]), .inr (1, 200, [])]
def zX2 (b : Nat) (σ : St) : St := (zr σ (b + 1) 1)
set_option maxHeartbeats 4000000 in
set_option maxRecDepth 100000 in
theorem cg_X2 {X : Nat × (Nat → Int32)} {T : List Sh} {b : Nat} (hb : T.length = b) (hl : b + 2 ≤ 900) {σ : St} : CG yX2_init mX2_init 1 X 1 200 [.ref b] (T ++ [.inl (2, FX2)]) σ (T ++ uX2 b) (zX2 b σ) := by
  refine CG.of (by decide +kernel) rfl rfl (fun E => Nat.le_of_ble_eq_true rfl) ?_
  show VG mX2_init 1 X True (T ++ uX2 b) (zX2 b σ) none 1 200 0 [(0, .ref b)] [] (T ++ [.inl (2, [some none, none, none, none])]) σ
  refine g_aload_n dX2_init_0 rfl rfl ?_
  refine g_oinit dX2_init_1 ko_X2 (Nat.le_of_ble_eq_true rfl) (by decide) ?_
  refine g_aload_n dX2_init_4 rfl rfl ?_
  refine g_sipush (v := 200) dX2_init_5 (by decide +kernel) ?_
  refine g_newa (t := 1) (N := 200) (q := b + 1) (S' := T ++ [.inl (2, [some none, none, none, none]), .inr (1, 200, [])]) dX2_init_8 kar_byte (fun _ => rfl) (Or.inl ⟨by decide, rfl⟩) (by decide) (by decide +kernel) (by decide) (app_len hb) (List.append_assoc _ _ _) rfl (by omega) ?_
  refine g_putF (j := 0) (S' := T ++ [.inl (2, [some (some (b + 1)), none, none, none]), .inr (1, 200, [])]) trivial dX2_init_10 kq_X2_9 (app_get0 hb) rfl (app_set0 hb) ?_
  exact g_retV dX2_init_13 rfl
theorem ko_X0 : GO RX0 3 := ⟨(TB_t 117 (by decide +kernel) (by decide +kernel)), (TB_t 20 (by decide +kernel) (by decide +kernel)), (TB_t 21 (by decide +kernel) (by decide +kernel))⟩
theorem kq_X0_9 : GQ RX0 9 0 0 (.array .int) := ⟨RX0, TX0, 6, tyX0, rfl, iX0, by decide, (TB_t 118 (by decide +kernel) (by decide +kernel)), tyX0_ok, nmX0, (by decide +kernel), (by decide +kernel), (by decide +kernel), Or.inr ⟨_, rfl⟩⟩
def uX0 (b : Nat) : List Sh := [.inl (0, [some (some (b + 1)), none, none, none, none, none]), .inr (0, 30, [])]
def zX0 (b : Nat) (σ : St) : St := (zr σ (b + 1) 1)
set_option maxHeartbeats 4000000 in
set_option maxRecDepth 100000 in
theorem cg_X0 {X : Nat × (Nat → Int32)} {T : List Sh} {b : Nat} (hb : T.length = b) (hl : b + 2 ≤ 900) {σ : St} : CG yX0_init mX0_init 1 X 1 30 [.ref b] (T ++ [.inl (0, FX0)]) σ (T ++ uX0 b) (zX0 b σ) := by
  refine CG.of (by decide +kernel) rfl rfl (fun E => Nat.le_of_ble_eq_true rfl) ?_
  show VG mX0_init 1 X True (T ++ uX0 b) (zX0 b σ) none 1 30 0 [(0, .ref b)] [] (T ++ [.inl (0, [some none, none, none, none, none, none])]) σ
  refine g_aload_n dX0_init_0 rfl rfl ?_
  refine g_oinit dX0_init_1 ko_X0 (Nat.le_of_ble_eq_true rfl) (by decide) ?_
  refine g_aload_n dX0_init_4 rfl rfl ?_
  refine g_bipush (v := 30) dX0_init_5 (by decide +kernel) ?_
  refine g_newa (t := 0) (N := 30) (q := b + 1) (S' := T ++ [.inl (0, [some none, none, none, none, none, none]), .inr (0, 30, [])]) dX0_init_7 kar_int (fun _ => rfl) (Or.inl ⟨by decide, rfl⟩) (by decide) (by decide +kernel) (by decide) (app_len hb) (List.append_assoc _ _ _) rfl (by omega) ?_
  refine g_putF (j := 0) (S' := T ++ [.inl (0, [some (some (b + 1)), none, none, none, none, none]), .inr (0, 30, [])]) trivial dX0_init_9 kq_X0_9 (app_get0 hb) rfl (app_set0 hb) ?_
  exact g_retV dX0_init_12 rfl
def uO0 : List Sh := [.inl (3, FX3)]
theorem ko_X3 : GO RX3 1 := ⟨(TB_t 19 (by decide +kernel) (by decide +kernel)), (TB_t 20 (by decide +kernel) (by decide +kernel)), (TB_t 21 (by decide +kernel) (by decide +kernel))⟩
theorem kn_X3_7 : GN RX3 7 1 12 FX1 := ⟨RX1, TX1, tyX1, rfl, iX1, tyX1_ok, (TB_t 22 (by decide +kernel) (by decide +kernel)), (TB_t 23 (by decide +kernel) (by decide +kernel)), (TB_t 2 (by decide +kernel) (by decide +kernel)), (by decide +kernel)⟩
def uO1 : List Sh := uO0 ++ [.inl (1, FX1)]
theorem ki_X3_9 : GI RX3 9 yX1_init mX1_init := ⟨kc_X1_init, rfl, rfl, (TB_t 25 (by decide +kernel) (by decide +kernel)), Or.inl (TB_t 24 (by decide +kernel) (by decide +kernel))⟩
def uO2 : List Sh := uO0 ++ uX1 1
theorem kq_X3_10 : GQ RX3 10 3 0 (.object "SpringOaths$Moor") := ⟨RX3, TX3, 14, tyX3, rfl, iX3, by decide, (TB_t 140 (by decide +kernel) (by decide +kernel)), tyX3_ok, nmX3, (by decide +kernel), (by decide +kernel), (by decide +kernel), Or.inl ⟨_, rfl⟩⟩
def uO3 : List Sh := uO2.set 0 (.inl (3, [some (some 1), some none, some none, none, some none, some none, none, some none, some none, some none, some none, some none, some none, some none]))
def uO4 : List Sh := uO3 ++ [.inl (1, FX1)]
def uO5 : List Sh := uO3 ++ uX1 10
theorem kq_X3_16 : GQ RX3 16 3 1 (.object "SpringOaths$Moor") := ⟨RX3, TX3, 14, tyX3, rfl, iX3, by decide, (TB_t 141 (by decide +kernel) (by decide +kernel)), tyX3_ok, nmX3, (by decide +kernel), (by decide +kernel), (by decide +kernel), Or.inl ⟨_, rfl⟩⟩
def uO6 : List Sh := uO5.set 0 (.inl (3, [some (some 1), some (some 10), some none, none, some none, some none, none, some none, some none, some none, some none, some none, some none, some none]))
def uO7 : List Sh := uO6 ++ [.inl (1, FX1)]
def uO8 : List Sh := uO6 ++ uX1 19
theorem kq_X3_19 : GQ RX3 19 3 2 (.object "SpringOaths$Moor") := ⟨RX3, TX3, 14, tyX3, rfl, iX3, by decide, (TB_t 142 (by decide +kernel) (by decide +kernel)), tyX3_ok, nmX3, (by decide +kernel), (by decide +kernel), (by decide +kernel), Or.inl ⟨_, rfl⟩⟩
def uO9 : List Sh := uO8.set 0 (.inl (3, [some (some 1), some (some 10), some (some 19), none, some none, some none, none, some none, some none, some none, some none, some none, some none, some none]))
theorem kn_X3_22 : GN RX3 22 2 4 FX2 := ⟨RX2, TX2, tyX2, rfl, iX2, tyX2_ok, (TB_t 87 (by decide +kernel) (by decide +kernel)), (TB_t 88 (by decide +kernel) (by decide +kernel)), (TB_t 3 (by decide +kernel) (by decide +kernel)), (by decide +kernel)⟩
def uO10 : List Sh := uO9 ++ [.inl (2, FX2)]
theorem ki_X3_24 : GI RX3 24 yX2_init mX2_init := ⟨kc_X2_init, rfl, rfl, (TB_t 90 (by decide +kernel) (by decide +kernel)), Or.inr ⟨_, List.mem_of_getElem? (i := 3) (by rfl)⟩⟩
def uO11 : List Sh := uO9 ++ uX2 28
theorem kq_X3_25 : GQ RX3 25 3 4 (.object "SpringOaths$Tape") := ⟨RX3, TX3, 14, tyX3, rfl, iX3, by decide, (TB_t 144 (by decide +kernel) (by decide +kernel)), tyX3_ok, nmX3, (by decide +kernel), (by decide +kernel), (by decide +kernel), Or.inl ⟨_, rfl⟩⟩
def uO12 : List Sh := uO11.set 0 (.inl (3, [some (some 1), some (some 10), some (some 19), none, some (some 28), some none, none, some none, some none, some none, some none, some none, some none, some none]))
def uO13 : List Sh := uO12 ++ (.inr (4, 10, (List.range 10).map (fun i => 30 + 1 + i)) :: List.replicate 10 (.inr (0, 3, [])))
theorem kq_X3_31 : GQ RX3 31 3 5 (.array (.array .int)) := ⟨RX3, TX3, 14, tyX3, rfl, iX3, by decide, (TB_t 145 (by decide +kernel) (by decide +kernel)), tyX3_ok, nmX3, (by decide +kernel), (by decide +kernel), (by decide +kernel), Or.inr ⟨_, rfl⟩⟩
def uO14 : List Sh := uO13.set 0 (.inl (3, [some (some 1), some (some 10), some (some 19), none, some (some 28), some (some 30), none, some none, some none, some none, some none, some none, some none, some none]))
def uO15 : List Sh := uO14 ++ [.inr (0, 4, [])]
theorem kq_X3_34 : GQ RX3 34 3 7 (.array .int) := ⟨RX3, TX3, 14, tyX3, rfl, iX3, by decide, (TB_t 147 (by decide +kernel) (by decide +kernel)), tyX3_ok, nmX3, (by decide +kernel), (by decide +kernel), (by decide +kernel), Or.inr ⟨_, rfl⟩⟩
def uO16 : List Sh := uO15.set 0 (.inl (3, [some (some 1), some (some 10), some (some 19), none, some (some 28), some (some 30), none, some (some 41), some none, some none, some none, some none, some none, some none]))
def uO17 : List Sh := uO16 ++ [.inr (0, 4, [])]
theorem kq_X3_38 : GQ RX3 38 3 8 (.array .int) := ⟨RX3, TX3, 14, tyX3, rfl, iX3, by decide, (TB_t 148 (by decide +kernel) (by decide +kernel)), tyX3_ok, nmX3, (by decide +kernel), (by decide +kernel), (by decide +kernel), Or.inr ⟨_, rfl⟩⟩
def uO18 : List Sh := uO17.set 0 (.inl (3, [some (some 1), some (some 10), some (some 19), none, some (some 28), some (some 30), none, some (some 41), some (some 42), some none, some none, some none, some none, some none]))
def uO19 : List Sh := uO18 ++ (.inr (5, 4, (List.range 4).map (fun i => 43 + 1 + i)) :: List.replicate 4 (.inr (3, 40, [])))
theorem kq_X3_43 : GQ RX3 43 3 9 (.array (.array .long)) := ⟨RX3, TX3, 14, tyX3, rfl, iX3, by decide, (TB_t 149 (by decide +kernel) (by decide +kernel)), tyX3_ok, nmX3, (by decide +kernel), (by decide +kernel), (by decide +kernel), Or.inr ⟨_, rfl⟩⟩
def uO20 : List Sh := uO19.set 0 (.inl (3, [some (some 1), some (some 10), some (some 19), none, some (some 28), some (some 30), none, some (some 41), some (some 42), some (some 43), some none, some none, some none, some none]))
def uO21 : List Sh := uO20 ++ [.inr (0, 4, [])]
theorem kq_X3_46 : GQ RX3 46 3 10 (.array .int) := ⟨RX3, TX3, 14, tyX3, rfl, iX3, by decide, (TB_t 150 (by decide +kernel) (by decide +kernel)), tyX3_ok, nmX3, (by decide +kernel), (by decide +kernel), (by decide +kernel), Or.inr ⟨_, rfl⟩⟩
def uO22 : List Sh := uO21.set 0 (.inl (3, [some (some 1), some (some 10), some (some 19), none, some (some 28), some (some 30), none, some (some 41), some (some 42), some (some 43), some (some 48), some none, some none, some none]))
def uO23 : List Sh := uO22 ++ [.inr (0, 4, [])]
theorem kq_X3_49 : GQ RX3 49 3 11 (.array .int) := ⟨RX3, TX3, 14, tyX3, rfl, iX3, by decide, (TB_t 151 (by decide +kernel) (by decide +kernel)), tyX3_ok, nmX3, (by decide +kernel), (by decide +kernel), (by decide +kernel), Or.inr ⟨_, rfl⟩⟩
def uO24 : List Sh := uO23.set 0 (.inl (3, [some (some 1), some (some 10), some (some 19), none, some (some 28), some (some 30), none, some (some 41), some (some 42), some (some 43), some (some 48), some (some 49), some none, some none]))
def uO25 : List Sh := uO24 ++ [.inr (0, 4, [])]
theorem kq_X3_52 : GQ RX3 52 3 12 (.array .int) := ⟨RX3, TX3, 14, tyX3, rfl, iX3, by decide, (TB_t 152 (by decide +kernel) (by decide +kernel)), tyX3_ok, nmX3, (by decide +kernel), (by decide +kernel), (by decide +kernel), Or.inr ⟨_, rfl⟩⟩
def uO26 : List Sh := uO25.set 0 (.inl (3, [some (some 1), some (some 10), some (some 19), none, some (some 28), some (some 30), none, some (some 41), some (some 42), some (some 43), some (some 48), some (some 49), some (some 50), some none]))
theorem kn_X3_55 : GN RX3 55 0 6 FX0 := ⟨RX0, TX0, tyX0, rfl, iX0, tyX0_ok, (TB_t 112 (by decide +kernel) (by decide +kernel)), (TB_t 113 (by decide +kernel) (by decide +kernel)), (TB_t 4 (by decide +kernel) (by decide +kernel)), (by decide +kernel)⟩
def uO27 : List Sh := uO26 ++ [.inl (0, FX0)]
theorem ki_X3_57 : GI RX3 57 yX0_init mX0_init := ⟨kc_X0_init, rfl, rfl, (TB_t 115 (by decide +kernel) (by decide +kernel)), Or.inr ⟨_, List.mem_of_getElem? (i := 4) (by rfl)⟩⟩
def uO28 : List Sh := uO26 ++ uX0 51
theorem kq_X3_58 : GQ RX3 58 3 13 (.object "SpringOaths$Acting") := ⟨RX3, TX3, 14, tyX3, rfl, iX3, by decide, (TB_t 153 (by decide +kernel) (by decide +kernel)), tyX3_ok, nmX3, (by decide +kernel), (by decide +kernel), (by decide +kernel), Or.inl ⟨_, rfl⟩⟩
def uO29 : List Sh := uO28.set 0 (.inl (3, [some (some 1), some (some 10), some (some 19), none, some (some 28), some (some 30), none, some (some 41), some (some 42), some (some 43), some (some 48), some (some 49), some (some 50), some (some 51)]))
abbrev uOZ : List Sh := uO29
def zX3 (σ3 : St) : St := (zX0 51 (zr (zr (zr (zr (zr (zr (zr (zr (zX2 28 (zr σ3 28 1)) 30 11) 41 1) 42 1) 43 5) 48 1) 49 1) 50 1) 51 1))
set_option maxRecDepth 100000 in
theorem uOZ_l10 : ∀ i, i < 10 → (uOZ)[0 + 31 + i]? = some (.inr (0, 3, [])) := by
  intro i hi
  match i, hi with
  | 0, _ => exact rfl
  | 1, _ => exact rfl
  | 2, _ => exact rfl
  | 3, _ => exact rfl
  | 4, _ => exact rfl
  | 5, _ => exact rfl
  | 6, _ => exact rfl
  | 7, _ => exact rfl
  | 8, _ => exact rfl
  | 9, _ => exact rfl
  | k + 10, h => exact absurd h (by omega)
set_option maxRecDepth 100000 in
theorem uOZ_l4 : ∀ i, i < 4 → (uOZ)[0 + 44 + i]? = some (.inr (3, 40, [])) := by
  intro i hi
  match i, hi with
  | 0, _ => exact rfl
  | 1, _ => exact rfl
  | 2, _ => exact rfl
  | 3, _ => exact rfl
  | k + 4, h => exact absurd h (by omega)
set_option maxRecDepth 100000 in
theorem uOZ_O {X : Nat × (Nat → Int32)} : isOaths (uOZ, X) 0 := ⟨rfl, ⟨rfl, rfl, rfl, rfl, rfl, rfl, rfl, rfl, rfl⟩, ⟨rfl, rfl, rfl, rfl, rfl, rfl, rfl, rfl, rfl⟩, ⟨rfl, rfl, rfl, rfl, rfl, rfl, rfl, rfl, rfl⟩, ⟨rfl, rfl⟩, rfl, fun i hi => uOZ_l10 i hi, rfl, rfl, rfl, fun i hi => uOZ_l4 i hi, rfl, rfl, rfl, ⟨rfl, rfl⟩⟩
set_option maxHeartbeats 40000000 in
set_option maxRecDepth 100000 in
theorem cg_X3 {X : Nat × (Nat → Int32)} {σ σ1 σ2 σ3 σ4 : St} (h1 : f_X1_tail 1 (zX1 1 (zr σ 1 1)) = some σ1) (h2 : f_X1_tail 10 (zX1 10 (zr σ1 10 1)) = some σ2) (h3 : f_X1_tail 19 (zX1 19 (zr σ2 19 1)) = some σ3) (h4 : f_X3_tail 0 (zX3 σ3) = some σ4) : CG yX3_init mX3_init 2 X 52 896 [.ref 0] uO0 σ uOZ σ4 := by
  refine CG.of (by decide +kernel) rfl rfl (fun E => Nat.le_of_ble_eq_true rfl) ?_
  show VG mX3_init 2 X True uOZ σ4 none 52 896 0 [(0, .ref 0)] [] uO0 σ
  refine g_aload_n dX3_init_0 rfl rfl ?_
  refine g_oinit dX3_init_1 ko_X3 (Nat.le_of_ble_eq_true rfl) (by decide) ?_
  refine g_aload_n dX3_init_4 rfl rfl ?_
  refine g_new (N := 12) (q := 1) (S' := uO1) dX3_init_5 kn_X3_7 (by decide +kernel) rfl rfl (by decide) ?_
  refine g_dup dX3_init_8 rfl ?_
  refine g_ci (mc := 8) (ms := 132) (S := uO1) (S' := uO2) dX3_init_9 ki_X3_9 (Nat.le_of_ble_eq_true rfl) (Nat.le_of_ble_eq_true rfl) (cg_X1 (T := uO0) (b := 1) (by decide +kernel) (by decide) h1) (by decide +kernel) (by decide +kernel) ?_
  refine g_putF (j := 0) (k := 0) (fs := [some none, some none, some none, none, some none, some none, none, some none, some none, some none, some none, some none, some none, some none]) (S' := uO3) trivial dX3_init_12 kq_X3_10 rfl rfl rfl ?_
  refine g_aload_n dX3_init_15 rfl rfl ?_
  refine g_new (N := 12) (q := 10) (S' := uO4) dX3_init_16 kn_X3_7 (by decide +kernel) rfl rfl (by decide) ?_
  refine g_dup dX3_init_19 rfl ?_
  refine g_ci (mc := 8) (ms := 132) (S := uO4) (S' := uO5) dX3_init_20 ki_X3_9 (Nat.le_of_ble_eq_true rfl) (Nat.le_of_ble_eq_true rfl) (cg_X1 (T := uO3) (b := 10) (by decide +kernel) (by decide) h2) (by decide +kernel) (by decide +kernel) ?_
  refine g_putF (j := 1) (k := 0) (fs := [some (some 1), some none, some none, none, some none, some none, none, some none, some none, some none, some none, some none, some none, some none]) (S' := uO6) trivial dX3_init_23 kq_X3_16 rfl rfl rfl ?_
  refine g_aload_n dX3_init_26 rfl rfl ?_
  refine g_new (N := 12) (q := 19) (S' := uO7) dX3_init_27 kn_X3_7 (by decide +kernel) rfl rfl (by decide) ?_
  refine g_dup dX3_init_30 rfl ?_
  refine g_ci (mc := 8) (ms := 132) (S := uO7) (S' := uO8) dX3_init_31 ki_X3_9 (Nat.le_of_ble_eq_true rfl) (Nat.le_of_ble_eq_true rfl) (cg_X1 (T := uO6) (b := 19) (by decide +kernel) (by decide) h3) (by decide +kernel) (by decide +kernel) ?_
  refine g_putF (j := 2) (k := 0) (fs := [some (some 1), some (some 10), some none, none, some none, some none, none, some none, some none, some none, some none, some none, some none, some none]) (S' := uO9) trivial dX3_init_34 kq_X3_19 rfl rfl rfl ?_
  refine g_aload_n dX3_init_37 rfl rfl ?_
  refine g_new (N := 4) (q := 28) (S' := uO10) dX3_init_38 kn_X3_22 (by decide +kernel) rfl rfl (by decide) ?_
  refine g_dup dX3_init_41 rfl ?_
  refine g_ci (mc := 1) (ms := 200) (S := uO10) (S' := uO11) dX3_init_42 ki_X3_24 (Nat.le_of_ble_eq_true rfl) (Nat.le_of_ble_eq_true rfl) (cg_X2 (T := uO9) (b := 28) (by decide +kernel) (by decide)) (by decide +kernel) (by decide +kernel) ?_
  refine g_putF (j := 4) (k := 0) (fs := [some (some 1), some (some 10), some (some 19), none, some none, some none, none, some none, some none, some none, some none, some none, some none, some none]) (S' := uO12) trivial dX3_init_45 kq_X3_25 rfl rfl rfl ?_
  refine g_aload_n dX3_init_48 rfl rfl ?_
  refine g_bipush (v := 10) dX3_init_49 (by decide +kernel) ?_
  refine g_iconst (v := 3) dX3_init_51 (by decide +kernel) ?_
  refine g_multi (ty := .int) (t := 4) (it := 0) (N := 10) (K := 3) (q := 30) (S' := uO13) dX3_init_52 (TB_t 108 (by decide +kernel) (by decide +kernel)) (TB_t 86 (by decide +kernel) (by decide +kernel)) (Or.inl ⟨rfl, rfl, rfl⟩) (by decide) (by decide) (by decide +kernel) (by decide +kernel) (by decide) (by decide +kernel) rfl rfl (by decide) ?_
  refine g_putF (j := 5) (k := 0) (fs := [some (some 1), some (some 10), some (some 19), none, some (some 28), some none, none, some none, some none, some none, some none, some none, some none, some none]) (S' := uO14) trivial dX3_init_56 kq_X3_31 rfl rfl rfl ?_
  refine g_aload_n dX3_init_59 rfl rfl ?_
  refine g_iconst (v := 4) dX3_init_60 (by decide +kernel) ?_
  refine g_newa (t := 0) (N := 4) (q := 41) (S' := uO15) dX3_init_61 kar_int (fun _ => rfl) (Or.inl ⟨by decide, rfl⟩) (by decide) (by decide +kernel) (by decide) (by decide +kernel) rfl rfl (by decide) ?_
  refine g_putF (j := 7) (k := 0) (fs := [some (some 1), some (some 10), some (some 19), none, some (some 28), some (some 30), none, some none, some none, some none, some none, some none, some none, some none]) (S' := uO16) trivial dX3_init_63 kq_X3_34 rfl rfl rfl ?_
  refine g_aload_n dX3_init_66 rfl rfl ?_
  refine g_iconst (v := 4) dX3_init_67 (by decide +kernel) ?_
  refine g_newa (t := 0) (N := 4) (q := 42) (S' := uO17) dX3_init_68 kar_int (fun _ => rfl) (Or.inl ⟨by decide, rfl⟩) (by decide) (by decide +kernel) (by decide) (by decide +kernel) rfl rfl (by decide) ?_
  refine g_putF (j := 8) (k := 0) (fs := [some (some 1), some (some 10), some (some 19), none, some (some 28), some (some 30), none, some (some 41), some none, some none, some none, some none, some none, some none]) (S' := uO18) trivial dX3_init_70 kq_X3_38 rfl rfl rfl ?_
  refine g_aload_n dX3_init_73 rfl rfl ?_
  refine g_iconst (v := 4) dX3_init_74 (by decide +kernel) ?_
  refine g_bipush (v := 40) dX3_init_75 (by decide +kernel) ?_
  refine g_multi (ty := .long) (t := 5) (it := 3) (N := 4) (K := 40) (q := 43) (S' := uO19) dX3_init_77 (TB_t 110 (by decide +kernel) (by decide +kernel)) (TB_t 139 (by decide +kernel) (by decide +kernel)) (Or.inr ⟨rfl, rfl, rfl⟩) (by decide) (by decide) (by decide +kernel) (by decide +kernel) (by decide) (by decide +kernel) rfl rfl (by decide) ?_
  refine g_putF (j := 9) (k := 0) (fs := [some (some 1), some (some 10), some (some 19), none, some (some 28), some (some 30), none, some (some 41), some (some 42), some none, some none, some none, some none, some none]) (S' := uO20) trivial dX3_init_81 kq_X3_43 rfl rfl rfl ?_
  refine g_aload_n dX3_init_84 rfl rfl ?_
  refine g_iconst (v := 4) dX3_init_85 (by decide +kernel) ?_
  refine g_newa (t := 0) (N := 4) (q := 48) (S' := uO21) dX3_init_86 kar_int (fun _ => rfl) (Or.inl ⟨by decide, rfl⟩) (by decide) (by decide +kernel) (by decide) (by decide +kernel) rfl rfl (by decide) ?_
  refine g_putF (j := 10) (k := 0) (fs := [some (some 1), some (some 10), some (some 19), none, some (some 28), some (some 30), none, some (some 41), some (some 42), some (some 43), some none, some none, some none, some none]) (S' := uO22) trivial dX3_init_88 kq_X3_46 rfl rfl rfl ?_
  refine g_aload_n dX3_init_91 rfl rfl ?_
  refine g_iconst (v := 4) dX3_init_92 (by decide +kernel) ?_
  refine g_newa (t := 0) (N := 4) (q := 49) (S' := uO23) dX3_init_93 kar_int (fun _ => rfl) (Or.inl ⟨by decide, rfl⟩) (by decide) (by decide +kernel) (by decide) (by decide +kernel) rfl rfl (by decide) ?_
  refine g_putF (j := 11) (k := 0) (fs := [some (some 1), some (some 10), some (some 19), none, some (some 28), some (some 30), none, some (some 41), some (some 42), some (some 43), some (some 48), some none, some none, some none]) (S' := uO24) trivial dX3_init_95 kq_X3_49 rfl rfl rfl ?_
  refine g_aload_n dX3_init_98 rfl rfl ?_
  refine g_iconst (v := 4) dX3_init_99 (by decide +kernel) ?_
  refine g_newa (t := 0) (N := 4) (q := 50) (S' := uO25) dX3_init_100 kar_int (fun _ => rfl) (Or.inl ⟨by decide, rfl⟩) (by decide) (by decide +kernel) (by decide) (by decide +kernel) rfl rfl (by decide) ?_
  refine g_putF (j := 12) (k := 0) (fs := [some (some 1), some (some 10), some (some 19), none, some (some 28), some (some 30), none, some (some 41), some (some 42), some (some 43), some (some 48), some (some 49), some none, some none]) (S' := uO26) trivial dX3_init_102 kq_X3_52 rfl rfl rfl ?_
  refine g_aload_n dX3_init_105 rfl rfl ?_
  refine g_new (N := 6) (q := 51) (S' := uO27) dX3_init_106 kn_X3_55 (by decide +kernel) rfl rfl (by decide) ?_
  refine g_dup dX3_init_109 rfl ?_
  refine g_ci (mc := 1) (ms := 30) (S := uO27) (S' := uO28) dX3_init_110 ki_X3_57 (Nat.le_of_ble_eq_true rfl) (Nat.le_of_ble_eq_true rfl) (cg_X0 (T := uO26) (b := 51) (by decide +kernel) (by decide)) (by decide +kernel) (by decide +kernel) ?_
  refine g_putF (j := 13) (k := 0) (fs := [some (some 1), some (some 10), some (some 19), none, some (some 28), some (some 30), none, some (some 41), some (some 42), some (some 43), some (some 48), some (some 49), some (some 50), some none]) (S' := uO29) trivial dX3_init_113 kq_X3_58 rfl rfl rfl ?_
  exact g_enter (ι := jV) (z := σ4) (w_X3_tail 0 uOZ_O _) h4
def uM0 : List Sh := uOZ ++ [.inl (4, FX4)]
theorem ko_X4 : GO RX4 1 := ⟨(TB_t 775 (by decide +kernel) (by decide +kernel)), (TB_t 20 (by decide +kernel) (by decide +kernel)), (TB_t 21 (by decide +kernel) (by decide +kernel))⟩
def uM1 : List Sh := uM0 ++ [.inr (0, 103, [])]
theorem kq_X4_7 : GQ RX4 7 4 0 (.array .int) := ⟨RX4, TX4, 26, tyX4, rfl, iX4, by decide, (TB_t 785 (by decide +kernel) (by decide +kernel)), tyX4_ok, nmX4, (by decide +kernel), (by decide +kernel), (by decide +kernel), Or.inr ⟨_, rfl⟩⟩
def uM2 : List Sh := uM1.set 53 (.inl (4, [some (some 54), some none, some none, none, none, some none, some none, none, none, none, none, none, some none, none, some none, none, some none, some none, some none, some none, some none, some none, some none, none, none, none]))
def uM3 : List Sh := uM2 ++ [.inr (0, 103, [])]
theorem kq_X4_13 : GQ RX4 13 4 1 (.array .int) := ⟨RX4, TX4, 26, tyX4, rfl, iX4, by decide, (TB_t 786 (by decide +kernel) (by decide +kernel)), tyX4_ok, nmX4, (by decide +kernel), (by decide +kernel), (by decide +kernel), Or.inr ⟨_, rfl⟩⟩
def uM4 : List Sh := uM3.set 53 (.inl (4, [some (some 54), some (some 55), some none, none, none, some none, some none, none, none, none, none, none, some none, none, some none, none, some none, some none, some none, some none, some none, some none, some none, none, none, none]))
def uM5 : List Sh := uM4 ++ [.inr (0, 103, [])]
theorem kq_X4_16 : GQ RX4 16 4 2 (.array .int) := ⟨RX4, TX4, 26, tyX4, rfl, iX4, by decide, (TB_t 787 (by decide +kernel) (by decide +kernel)), tyX4_ok, nmX4, (by decide +kernel), (by decide +kernel), (by decide +kernel), Or.inr ⟨_, rfl⟩⟩
def uM6 : List Sh := uM5.set 53 (.inl (4, [some (some 54), some (some 55), some (some 56), none, none, some none, some none, none, none, none, none, none, some none, none, some none, none, some none, some none, some none, some none, some none, some none, some none, none, none, none]))
def uM7 : List Sh := uM6 ++ [.inr (0, 32, [])]
theorem kq_X4_19 : GQ RX4 19 4 5 (.array .int) := ⟨RX4, TX4, 26, tyX4, rfl, iX4, by decide, (TB_t 790 (by decide +kernel) (by decide +kernel)), tyX4_ok, nmX4, (by decide +kernel), (by decide +kernel), (by decide +kernel), Or.inr ⟨_, rfl⟩⟩
def uM8 : List Sh := uM7.set 53 (.inl (4, [some (some 54), some (some 55), some (some 56), none, none, some (some 57), some none, none, none, none, none, none, some none, none, some none, none, some none, some none, some none, some none, some none, some none, some none, none, none, none]))
def uM9 : List Sh := uM8 ++ [.inr (0, 200, [])]
theorem kq_X4_22 : GQ RX4 22 4 6 (.array .int) := ⟨RX4, TX4, 26, tyX4, rfl, iX4, by decide, (TB_t 791 (by decide +kernel) (by decide +kernel)), tyX4_ok, nmX4, (by decide +kernel), (by decide +kernel), (by decide +kernel), Or.inr ⟨_, rfl⟩⟩
def uM10 : List Sh := uM9.set 53 (.inl (4, [some (some 54), some (some 55), some (some 56), none, none, some (some 57), some (some 58), none, none, none, none, none, some none, none, some none, none, some none, some none, some none, some none, some none, some none, some none, none, none, none]))
def uM11 : List Sh := uM10 ++ [.inr (2, 128, [])]
theorem gw_uM11 : uM11[59]? = some (.inr (2, 128, [])) := by rfl
theorem kq_X4_25 : GQ RX4 25 4 12 (.array .char) := ⟨RX4, TX4, 26, tyX4, rfl, iX4, by decide, (TB_t 797 (by decide +kernel) (by decide +kernel)), tyX4_ok, nmX4, (by decide +kernel), (by decide +kernel), (by decide +kernel), Or.inr ⟨_, rfl⟩⟩
def uM12 : List Sh := uM11.set 53 (.inl (4, [some (some 54), some (some 55), some (some 56), none, none, some (some 57), some (some 58), none, none, none, none, none, some (some 59), none, some none, none, some none, some none, some none, some none, some none, some none, some none, none, none, none]))
def uM13 : List Sh := uM12 ++ [.inr (0, 30, [])]
theorem kq_X4_29 : GQ RX4 29 4 14 (.array .int) := ⟨RX4, TX4, 26, tyX4, rfl, iX4, by decide, (TB_t 799 (by decide +kernel) (by decide +kernel)), tyX4_ok, nmX4, (by decide +kernel), (by decide +kernel), (by decide +kernel), Or.inr ⟨_, rfl⟩⟩
def uM14 : List Sh := uM13.set 53 (.inl (4, [some (some 54), some (some 55), some (some 56), none, none, some (some 57), some (some 58), none, none, none, none, none, some (some 59), none, some (some 60), none, some none, some none, some none, some none, some none, some none, some none, none, none, none]))
def uM15 : List Sh := uM14 ++ [.inr (0, 4, [])]
theorem kq_X4_32 : GQ RX4 32 4 16 (.array .int) := ⟨RX4, TX4, 26, tyX4, rfl, iX4, by decide, (TB_t 801 (by decide +kernel) (by decide +kernel)), tyX4_ok, nmX4, (by decide +kernel), (by decide +kernel), (by decide +kernel), Or.inr ⟨_, rfl⟩⟩
def uM16 : List Sh := uM15.set 53 (.inl (4, [some (some 54), some (some 55), some (some 56), none, none, some (some 57), some (some 58), none, none, none, none, none, some (some 59), none, some (some 60), none, some (some 61), some none, some none, some none, some none, some none, some none, none, none, none]))
def uM17 : List Sh := uM16 ++ [.inr (0, 4, [])]
theorem kq_X4_35 : GQ RX4 35 4 17 (.array .int) := ⟨RX4, TX4, 26, tyX4, rfl, iX4, by decide, (TB_t 802 (by decide +kernel) (by decide +kernel)), tyX4_ok, nmX4, (by decide +kernel), (by decide +kernel), (by decide +kernel), Or.inr ⟨_, rfl⟩⟩
def uM18 : List Sh := uM17.set 53 (.inl (4, [some (some 54), some (some 55), some (some 56), none, none, some (some 57), some (some 58), none, none, none, none, none, some (some 59), none, some (some 60), none, some (some 61), some (some 62), some none, some none, some none, some none, some none, none, none, none]))
def uM19 : List Sh := uM18 ++ [.inr (3, 160, [])]
theorem kq_X4_38 : GQ RX4 38 4 18 (.array .long) := ⟨RX4, TX4, 26, tyX4, rfl, iX4, by decide, (TB_t 803 (by decide +kernel) (by decide +kernel)), tyX4_ok, nmX4, (by decide +kernel), (by decide +kernel), (by decide +kernel), Or.inr ⟨_, rfl⟩⟩
def uM20 : List Sh := uM19.set 53 (.inl (4, [some (some 54), some (some 55), some (some 56), none, none, some (some 57), some (some 58), none, none, none, none, none, some (some 59), none, some (some 60), none, some (some 61), some (some 62), some (some 63), some none, some none, some none, some none, none, none, none]))
def uM21 : List Sh := uM20 ++ [.inr (0, 4, [])]
theorem kq_X4_42 : GQ RX4 42 4 19 (.array .int) := ⟨RX4, TX4, 26, tyX4, rfl, iX4, by decide, (TB_t 804 (by decide +kernel) (by decide +kernel)), tyX4_ok, nmX4, (by decide +kernel), (by decide +kernel), (by decide +kernel), Or.inr ⟨_, rfl⟩⟩
def uM22 : List Sh := uM21.set 53 (.inl (4, [some (some 54), some (some 55), some (some 56), none, none, some (some 57), some (some 58), none, none, none, none, none, some (some 59), none, some (some 60), none, some (some 61), some (some 62), some (some 63), some (some 64), some none, some none, some none, none, none, none]))
def uM23 : List Sh := uM22 ++ [.inr (0, 4, [])]
theorem kq_X4_45 : GQ RX4 45 4 20 (.array .int) := ⟨RX4, TX4, 26, tyX4, rfl, iX4, by decide, (TB_t 805 (by decide +kernel) (by decide +kernel)), tyX4_ok, nmX4, (by decide +kernel), (by decide +kernel), (by decide +kernel), Or.inr ⟨_, rfl⟩⟩
def uM24 : List Sh := uM23.set 53 (.inl (4, [some (some 54), some (some 55), some (some 56), none, none, some (some 57), some (some 58), none, none, none, none, none, some (some 59), none, some (some 60), none, some (some 61), some (some 62), some (some 63), some (some 64), some (some 65), some none, some none, none, none, none]))
def uM25 : List Sh := uM24 ++ [.inr (0, 4, [])]
theorem kq_X4_48 : GQ RX4 48 4 21 (.array .int) := ⟨RX4, TX4, 26, tyX4, rfl, iX4, by decide, (TB_t 806 (by decide +kernel) (by decide +kernel)), tyX4_ok, nmX4, (by decide +kernel), (by decide +kernel), (by decide +kernel), Or.inr ⟨_, rfl⟩⟩
def uM26 : List Sh := uM25.set 53 (.inl (4, [some (some 54), some (some 55), some (some 56), none, none, some (some 57), some (some 58), none, none, none, none, none, some (some 59), none, some (some 60), none, some (some 61), some (some 62), some (some 63), some (some 64), some (some 65), some (some 66), some none, none, none, none]))
def uM27 : List Sh := uM26 ++ [.inr (0, 30, [])]
theorem kq_X4_51 : GQ RX4 51 4 22 (.array .int) := ⟨RX4, TX4, 26, tyX4, rfl, iX4, by decide, (TB_t 807 (by decide +kernel) (by decide +kernel)), tyX4_ok, nmX4, (by decide +kernel), (by decide +kernel), (by decide +kernel), Or.inr ⟨_, rfl⟩⟩
def uM28 : List Sh := uM27.set 53 (.inl (4, [some (some 54), some (some 55), some (some 56), none, none, some (some 57), some (some 58), none, none, none, none, none, some (some 59), none, some (some 60), none, some (some 61), some (some 62), some (some 63), some (some 64), some (some 65), some (some 66), some (some 67), none, none, none]))
abbrev uMZ : List Sh := uM28
def wdL : List (Nat × Int32) := [(0, 115), (1, 119), (2, 111), (3, 114), (4, 110), (5, 32), (6, 32), (7, 32), (8, 101), (9, 110), (10, 103), (11, 105), (12, 110), (13, 101), (14, 101), (15, 114), (16, 100), (17, 111), (18, 117), (19, 98), (20, 116), (21, 101), (22, 114), (23, 32), (24, 101), (25, 120), (26, 112), (27, 101), (28, 114), (29, 116), (30, 32), (31, 32), (32, 100), (33, 111), (34, 119), (35, 115), (36, 101), (37, 114), (38, 32), (39, 32), (40, 100), (41, 114), (42, 117), (43, 110), (44, 107), (45, 97), (46, 114), (47, 100), (48, 97), (49, 116), (50, 32), (51, 32), (52, 32), (53, 32), (54, 32), (55, 32), (56, 115), (57, 117), (58, 114), (59, 101), (60, 32), (61, 32), (62, 32), (63, 32), (64, 115), (65, 101), (66, 110), (67, 115), (68, 101), (69, 32), (70, 32), (71, 32), (72, 105), (73, 115), (74, 32), (75, 32), (76, 32), (77, 32), (78, 32), (79, 32), (80, 104), (81, 101), (82, 105), (83, 103), (84, 104), (85, 116), (86, 32), (87, 32), (88, 119), (89, 97), (90, 116), (91, 101), (92, 114), (93, 32), (94, 32), (95, 32), (96, 115), (97, 112), (98, 114), (99, 105), (100, 110), (101, 103), (102, 32), (103, 32), (104, 115), (105, 101), (106, 101), (107, 112), (108, 32), (109, 32), (110, 32), (111, 32), (112, 98), (113, 111), (114, 103), (115, 32), (116, 32), (117, 32), (118, 32), (119, 32), (120, 100), (121, 114), (122, 105), (123, 110), (124, 107), (125, 32), (126, 32), (127, 32)]
def wdP (l : List (Nat × Int32)) (σ : St) : St := l.foldl (fun s q => pA s 59 q.1 q.2) σ
def zX4 (σ : St) : St := (zr (zr (zr (zr (zr (zr (zr (zr (wdP wdL (zr (zr (zr (zr (zr (zr σ 54 1) 55 1) 56 1) 57 1) 58 1) 59 1)) 60 1) 61 1) 62 1) 63 1) 64 1) 65 1) 66 1) 67 1)
set_option maxRecDepth 100000 in
theorem uMZ_l10 : ∀ i, i < 10 → (uMZ)[0 + 31 + i]? = some (.inr (0, 3, [])) := by
  intro i hi
  match i, hi with
  | 0, _ => exact rfl
  | 1, _ => exact rfl
  | 2, _ => exact rfl
  | 3, _ => exact rfl
  | 4, _ => exact rfl
  | 5, _ => exact rfl
  | 6, _ => exact rfl
  | 7, _ => exact rfl
  | 8, _ => exact rfl
  | 9, _ => exact rfl
  | k + 10, h => exact absurd h (by omega)
set_option maxRecDepth 100000 in
theorem uMZ_l4 : ∀ i, i < 4 → (uMZ)[0 + 44 + i]? = some (.inr (3, 40, [])) := by
  intro i hi
  match i, hi with
  | 0, _ => exact rfl
  | 1, _ => exact rfl
  | 2, _ => exact rfl
  | 3, _ => exact rfl
  | k + 4, h => exact absurd h (by omega)
set_option maxRecDepth 100000 in
theorem uMZ_O {X : Nat × (Nat → Int32)} : isOaths (uMZ, X) 0 := ⟨rfl, ⟨rfl, rfl, rfl, rfl, rfl, rfl, rfl, rfl, rfl⟩, ⟨rfl, rfl, rfl, rfl, rfl, rfl, rfl, rfl, rfl⟩, ⟨rfl, rfl, rfl, rfl, rfl, rfl, rfl, rfl, rfl⟩, ⟨rfl, rfl⟩, rfl, fun i hi => uMZ_l10 i hi, rfl, rfl, rfl, fun i hi => uMZ_l4 i hi, rfl, rfl, rfl, ⟨rfl, rfl⟩⟩
set_option maxRecDepth 100000 in
theorem uMZ_M {X : Nat × (Nat → Int32)} : isModel (uMZ, X) 53 := ⟨rfl, rfl, rfl, rfl, rfl, rfl, rfl, rfl, rfl, rfl, rfl, rfl, rfl, rfl, rfl⟩
