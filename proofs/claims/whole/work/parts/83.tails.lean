def mX0_init : MC := (RX0, cX0_init, 1, none)
def mX1_init : MC := (RX1, cX1_init, 1, none)
def mX2_init : MC := (RX2, cX2_init, 1, none)
def mX3_init : MC := (RX3, cX3_init, 2, none)
def mX4_init : MC := (RX4, cX4_init, 1, none)
theorem kc_X0_init : GC yX0_init mX0_init 0 := ⟨TB_t 116 (by decide +kernel) (by decide +kernel), TB_t 4 (by decide +kernel) (by decide +kernel), by decide +kernel, by decide +kernel, by decide +kernel, by decide⟩
theorem kc_X1_init : GC yX1_init mX1_init 0 := ⟨TB_t 26 (by decide +kernel) (by decide +kernel), TB_t 2 (by decide +kernel) (by decide +kernel), by decide +kernel, by decide +kernel, by decide +kernel, by decide⟩
theorem kc_X2_init : GC yX2_init mX2_init 0 := ⟨TB_t 91 (by decide +kernel) (by decide +kernel), TB_t 3 (by decide +kernel) (by decide +kernel), by decide +kernel, by decide +kernel, by decide +kernel, by decide⟩
theorem kc_X3_init : GC yX3_init mX3_init 0 := ⟨TB_t 18 (by decide +kernel) (by decide +kernel), TB_t 1 (by decide +kernel) (by decide +kernel), by decide +kernel, by decide +kernel, by decide +kernel, by decide⟩
set_option maxRecDepth 100000 in
theorem mem_X4_init : Cond.code yX4_init mX4_init.2.1 1 none ∈ tables_1 := by
  show Cond.code yX4_init prog_6_method_1_code 1 none ∈ tables_1
  exact List.mem_of_getElem? (i := 774) rfl
theorem kc_X4_init : GC yX4_init mX4_init 0 := ⟨TB_of (List.mem_append_right _ mem_X4_init) (by decide +kernel), TB_t 5 (by decide +kernel) (by decide +kernel), by decide +kernel, by decide +kernel, by decide +kernel, by decide⟩
theorem kv_X1_40 : GV RX1 40 yX1_clear mX1_clear 0 := ⟨kc_X1_clear, TB_t 28 (by decide +kernel) (by decide +kernel), TB_t 29 (by decide +kernel) (by decide +kernel), TB_t 30 (by decide +kernel) (by decide +kernel)⟩
def f_X1_tail (b : Nat) (s0 : St) : Option St := bn (pF s0 b 2 (1 : Int32)) fun s1 => cw (f_X1_clear b s1) fun s2 => some s2
set_option maxHeartbeats 4000000 in
set_option maxRecDepth 100000 in
theorem w_X1_tail {SH : SHT} (b : Nat) (h : isMoor SH b) (s0 : St) : VF mX1_init 1 SH jV 67 [(0, .ref b)] [] s0 (f_X1_tail b s0) := by
  unfold f_X1_tail
  refine v_aload_n dX1_init_67 rfl rfl ?_
  refine v_iconst (v := 1) dX1_init_68 (by decide +kernel) ?_
  refine v_puti dX1_init_69 kp_X1_36 h.1 rfl rfl rfl (v_st fun s1 => ?_)
  refine v_aload_n dX1_init_72 rfl rfl ?_
  refine v_cw (fun z hz => runV (as := []) dX1_init_73 kv_X1_40 rfl rfl (Nat.le_of_ble_eq_true rfl) (Nat.le_of_ble_eq_true rfl) (recvW h.1 rfl rfl) (ct_X1_clear _ h _) hz) (fun s2 => ?_)
  exact v_vret dX1_init_76 rfl rfl
def B_X3_init_118 (rec : Int32 → St → Option St) (b : Nat) (K : St → Option St) (c1 : Int32) (s2 : St) : Option St := (if (4 : Int32) ≤ c1 then K s2 else gd (ib c1 4) (bn (pA s2 (b + 41) (ix c1) (-1 : Int32)) fun s5 => rec (c1 + (1 : Int32)) s5))
def L_X3_init_118 (b : Nat) (K : St → Option St) : Nat → Int32 → St → Option St
  | 0 => fun _ _ => none
  | n + 1 => B_X3_init_118 (L_X3_init_118 b K n) b K
def B_X3_init_138 (rec : Int32 → St → Option St) (b : Nat) (K : St → Option St) (c6 : Int32) (s7 : St) : Option St := (if (4 : Int32) ≤ c6 then K s7 else gd (ib c6 4) (bn (pA s7 (b + 48) (ix c6) (2 : Int32)) fun s10 => rec (c6 + (1 : Int32)) s10))
def L_X3_init_138 (b : Nat) (K : St → Option St) : Nat → Int32 → St → Option St
  | 0 => fun _ _ => none
  | n + 1 => B_X3_init_138 (L_X3_init_138 b K n) b K
def f_X3_tail (b : Nat) (s0 : St) : Option St := L_X3_init_118 b (fun (s3 : St) => L_X3_init_138 b (fun (s8 : St) => some s8) FU (0 : Int32) s3) FU (0 : Int32) s0
set_option maxHeartbeats 4000000 in
set_option maxRecDepth 100000 in
theorem wB_X3_init_118 {SH : SHT} (b : Nat) (h : isOaths SH b) (rec : Int32 → St → Option St) (hrec : ∀ (c1 : Int32) (s2 : St), VF mX3_init 2 SH jV 118 [(0, .ref b), (1, .int c1)] [] s2 (rec c1 s2)) (K : St → Option St) (hK : ∀ (s3 : St), VF mX3_init 2 SH jV 136 [(0, .ref b)] [] s3 (K s3)) (c1 : Int32) (s2 : St) : VF mX3_init 2 SH jV 118 [(0, .ref b), (1, .int c1)] [] s2 (B_X3_init_118 rec b K c1 s2) := by
  unfold B_X3_init_118
  refine v_iload_n dX3_init_118 rfl rfl ?_
  refine v_iconst (v := 4) dX3_init_119 (by decide +kernel) ?_
  refine v_icmp_ge (tgt := 136) dX3_init_120 (by decide) (fun _ => ?_) (fun _ => ?_)
  · skip
    exact v_pick [0] rfl (hK _)
  refine v_aload_n dX3_init_123 rfl rfl ?_
  refine v_getr dX3_init_124 kf_X3_34 h.1 rfl ?_
  refine v_iload_n dX3_init_127 rfl rfl ?_
  refine v_iconst (v := -1) dX3_init_128 (by decide +kernel) ?_
  refine v_gd (fun g4 => ?_)
  refine v_iast dX3_init_129 h.2.2.2.2.2.2.2.1 g4 rfl (v_st fun s5 => ?_)
  refine v_iinc (v := (c1 + (1 : Int32))) (L' := [(1, .int (c1 + (1 : Int32))), (0, .ref b)]) dX3_init_130 rfl rfl (by decide) rfl ?_
  refine v_goto (tgt := 118) dX3_init_133 (by decide) ?_
  exact v_pick [1, 0] rfl (hrec _ _)
theorem wL_X3_init_118 {SH : SHT} (b : Nat) (h : isOaths SH b) (K : St → Option St) (hK : ∀ (s3 : St), VF mX3_init 2 SH jV 136 [(0, .ref b)] [] s3 (K s3)) : ∀ (n : Nat) (c1 : Int32) (s2 : St), VF mX3_init 2 SH jV 118 [(0, .ref b), (1, .int c1)] [] s2 (L_X3_init_118 b K n c1 s2) := by
  intro n
  induction n with
  | zero => intros; exact v_none
  | succ n ih => intro c1 s2; exact wB_X3_init_118 b h _ ih K hK c1 s2
set_option maxHeartbeats 4000000 in
set_option maxRecDepth 100000 in
theorem wB_X3_init_138 {SH : SHT} (b : Nat) (h : isOaths SH b) (rec : Int32 → St → Option St) (hrec : ∀ (c6 : Int32) (s7 : St), VF mX3_init 2 SH jV 138 [(0, .ref b), (1, .int c6)] [] s7 (rec c6 s7)) (K : St → Option St) (hK : ∀ (s8 : St), VF mX3_init 2 SH jV 156 [] [] s8 (K s8)) (c6 : Int32) (s7 : St) : VF mX3_init 2 SH jV 138 [(0, .ref b), (1, .int c6)] [] s7 (B_X3_init_138 rec b K c6 s7) := by
  unfold B_X3_init_138
  refine v_iload_n dX3_init_138 rfl rfl ?_
  refine v_iconst (v := 4) dX3_init_139 (by decide +kernel) ?_
  refine v_icmp_ge (tgt := 156) dX3_init_140 (by decide) (fun _ => ?_) (fun _ => ?_)
  · skip
    exact v_pick [] rfl (hK _)
  refine v_aload_n dX3_init_143 rfl rfl ?_
  refine v_getr dX3_init_144 kf_X3_46 h.1 rfl ?_
  refine v_iload_n dX3_init_147 rfl rfl ?_
  refine v_iconst (v := 2) dX3_init_148 (by decide +kernel) ?_
  refine v_gd (fun g9 => ?_)
  refine v_iast dX3_init_149 h.2.2.2.2.2.2.2.2.2.2.2.1 g9 rfl (v_st fun s10 => ?_)
  refine v_iinc (v := (c6 + (1 : Int32))) (L' := [(1, .int (c6 + (1 : Int32))), (0, .ref b)]) dX3_init_150 rfl rfl (by decide) rfl ?_
  refine v_goto (tgt := 138) dX3_init_153 (by decide) ?_
  exact v_pick [1, 0] rfl (hrec _ _)
theorem wL_X3_init_138 {SH : SHT} (b : Nat) (h : isOaths SH b) (K : St → Option St) (hK : ∀ (s8 : St), VF mX3_init 2 SH jV 156 [] [] s8 (K s8)) : ∀ (n : Nat) (c6 : Int32) (s7 : St), VF mX3_init 2 SH jV 138 [(0, .ref b), (1, .int c6)] [] s7 (L_X3_init_138 b K n c6 s7) := by
  intro n
  induction n with
  | zero => intros; exact v_none
  | succ n ih => intro c6 s7; exact wB_X3_init_138 b h _ ih K hK c6 s7
set_option maxHeartbeats 4000000 in
set_option maxRecDepth 100000 in
theorem w_X3_tail {SH : SHT} (b : Nat) (h : isOaths SH b) (s0 : St) : VF mX3_init 2 SH jV 116 [(0, .ref b)] [] s0 (f_X3_tail b s0) := by
  unfold f_X3_tail
  refine v_iconst (v := 0) dX3_init_116 (by decide +kernel) ?_
  refine v_istore_n (L' := [(1, .int (0 : Int32)), (0, .ref b)]) dX3_init_117 rfl (by decide) rfl ?_
  refine v_pick [1, 0] rfl (wL_X3_init_118 b h _ (fun s3 => ?_) FU _ _)
  refine v_iconst (v := 0) dX3_init_136 (by decide +kernel) ?_
  refine v_istore_n (L' := [(1, .int (0 : Int32)), (0, .ref b)]) dX3_init_137 rfl (by decide) rfl ?_
  refine v_pick [1, 0] rfl (wL_X3_init_138 b h _ (fun s8 => ?_) FU _ _)
  exact v_vret dX3_init_156 rfl rfl
def f_X4_tail (b : Nat) (s0 : St) : Option St := cw (f_X4_first b s0) fun s1 => bn (pA s1 (b + 1) 6 (1 : Int32)) fun s2 => some s2
set_option maxHeartbeats 4000000 in
set_option maxRecDepth 100000 in
theorem w_X4_tail {SH : SHT} (b : Nat) (h : isModel SH b) (s0 : St) : VF mX4_init 2 SH jV 876 [(0, .ref b)] [] s0 (f_X4_tail b s0) := by
  unfold f_X4_tail
  refine v_aload_n dX4_init_876 rfl rfl ?_
  refine v_cw (fun z hz => runV (as := []) dX4_init_877 kv_X4_54 rfl rfl (Nat.le_of_ble_eq_true rfl) (Nat.le_of_ble_eq_true rfl) (recvW h.1 rfl rfl) (ct_X4_first _ h _) hz) (fun s1 => ?_)
  refine v_aload_n dX4_init_880 rfl rfl ?_
  refine v_getr dX4_init_881 kf_X4_7 h.1 rfl ?_
  refine v_bipush (v := 6) dX4_init_884 (by decide +kernel) ?_
  refine v_iconst (v := 1) dX4_init_886 (by decide +kernel) ?_
  refine v_iast dX4_init_887 h.2.1 (by decide +kernel) (j := 6) (by decide +kernel) (v_st fun s2 => ?_)
  exact v_vret dX4_init_888 rfl rfl
