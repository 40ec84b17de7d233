section VFS
variable {α : Type} {M : MC} {d : Nat} {SH : SHT} {ι : α → Option Value × St} {pc : Nat} {L : List (Nat × Value)} {st : List Value} {σ : St} {o o1 o2 : Option α}
theorem v_none : VF M d SH ι pc L st σ none := fun z h => by cases h
theorem v_gd {b : Bool} (h : b = true → VF M d SH ι pc L st σ o) : VF M d SH ι pc L st σ (gd b o) := by
  cases b with
  | false => exact v_none
  | true => exact h rfl
/-- fewer known locals, in any order -/
theorem v_sub {L' : List (Nat × Value)} (hl : ∀ q ∈ L', q ∈ L) (k : VF M d SH ι pc L' st σ o) : VF M d SH ι pc L st σ o :=
  fun z hz p l e R s m args below meth c E Q cells slots C hc hs F H locs ls hP hS hL => k z hz p l e R s m args below meth c E Q cells slots C hc hs F H locs ls hP hS (lv_less hL hl)
theorem v_topi {x : Int32} {f : Int32 → Option α} (k : ∀ y, VF M d SH ι pc L (.int y :: st) σ (f y)) : VF M d SH ι pc L (.int x :: st) σ (bn x f) := k x
theorem v_topl {x : Int64} {f : Int64 → Option α} (k : ∀ y, VF M d SH ι pc L (.long y :: st) σ (f y)) : VF M d SH ι pc L (.long x :: st) σ (bn x f) := k x
theorem v_st {f : St → Option α} (k : ∀ y, VF M d SH ι pc L st y (f y)) : VF M d SH ι pc L st σ (bn σ f) := k σ

theorem v_iconst {n : Int} {v : Int32} (hd : decode M.2.1 pc = .ok (.iconst n, 1)) (hv : Int32.ofInt n = v) (k : VF M d SH ι (pc + 1) L (.int v :: st) σ o) : VF M d SH ι pc L (st) σ o :=
  fun z hz p l e R s m args below meth c E Q cells slots C hc hs F H locs ls hP hS hL => lv_iconst C.1 C.2.1 hd hv (k z hz p l e R s m args below meth c E Q cells slots C hc hs F H locs ls hP hS hL)
theorem v_bipush {n : Int} {v : Int32} (hd : decode M.2.1 pc = .ok (.bipush n, 2)) (hv : (Int8.ofInt n).toInt32 = v) (k : VF M d SH ι (pc + 2) L (.int v :: st) σ o) : VF M d SH ι pc L (st) σ o :=
  fun z hz p l e R s m args below meth c E Q cells slots C hc hs F H locs ls hP hS hL => lv_bipush C.1 C.2.1 hd hv (k z hz p l e R s m args below meth c E Q cells slots C hc hs F H locs ls hP hS hL)
theorem v_sipush {n : Int} {v : Int32} (hd : decode M.2.1 pc = .ok (.sipush n, 3)) (hv : (Int16.ofInt n).toInt32 = v) (k : VF M d SH ι (pc + 3) L (.int v :: st) σ o) : VF M d SH ι pc L (st) σ o :=
  fun z hz p l e R s m args below meth c E Q cells slots C hc hs F H locs ls hP hS hL => lv_sipush C.1 C.2.1 hd hv (k z hz p l e R s m args below meth c E Q cells slots C hc hs F H locs ls hP hS hL)
theorem v_lconst {n : Fin 2} {v : Int64} (hd : decode M.2.1 pc = .ok (.lconst n, 1)) (hv : Int64.ofNat (n : Nat) = v) (k : VF M d SH ι (pc + 1) L (.long v :: st) σ o) : VF M d SH ι pc L (st) σ o :=
  fun z hz p l e R s m args below meth c E Q cells slots C hc hs F H locs ls hP hS hL => lv_lconst C.1 C.2.1 hd hv (k z hz p l e R s m args below meth c E Q cells slots C hc hs F H locs ls hP hS hL)
theorem v_iload_n {k0 : Fin 4} {i : Nat} {x : Int32} (hd : decode M.2.1 pc = .ok (.iload_n k0, 1)) (hi : (k0 : Nat) = i) (hx : lkp L i = some (.int x)) (k : VF M d SH ι (pc + 1) L (.int x :: st) σ o) : VF M d SH ι pc L (st) σ o :=
  fun z hz p l e R s m args below meth c E Q cells slots C hc hs F H locs ls hP hS hL => lv_iload_n C.1 C.2.1 hd hi (lkp_at hL hx) (k z hz p l e R s m args below meth c E Q cells slots C hc hs F H locs ls hP hS hL)
theorem v_iload {i : Nat} {x : Int32} (hd : decode M.2.1 pc = .ok (.iload i, 2)) (hx : lkp L i = some (.int x)) (k : VF M d SH ι (pc + 2) L (.int x :: st) σ o) : VF M d SH ι pc L (st) σ o :=
  fun z hz p l e R s m args below meth c E Q cells slots C hc hs F H locs ls hP hS hL => lv_iload C.1 C.2.1 hd (lkp_at hL hx) (k z hz p l e R s m args below meth c E Q cells slots C hc hs F H locs ls hP hS hL)
theorem v_lload_n {k0 : Fin 4} {i : Nat} {x : Int64} (hd : decode M.2.1 pc = .ok (.lload_n k0, 1)) (hi : (k0 : Nat) = i) (hx : lkp L i = some (.long x)) (k : VF M d SH ι (pc + 1) L (.long x :: st) σ o) : VF M d SH ι pc L (st) σ o :=
  fun z hz p l e R s m args below meth c E Q cells slots C hc hs F H locs ls hP hS hL => lv_lload_n C.1 C.2.1 hd hi (lkp_at hL hx) (k z hz p l e R s m args below meth c E Q cells slots C hc hs F H locs ls hP hS hL)
theorem v_lload {i : Nat} {x : Int64} (hd : decode M.2.1 pc = .ok (.lload i, 2)) (hx : lkp L i = some (.long x)) (k : VF M d SH ι (pc + 2) L (.long x :: st) σ o) : VF M d SH ι pc L (st) σ o :=
  fun z hz p l e R s m args below meth c E Q cells slots C hc hs F H locs ls hP hS hL => lv_lload C.1 C.2.1 hd (lkp_at hL hx) (k z hz p l e R s m args below meth c E Q cells slots C hc hs F H locs ls hP hS hL)
theorem v_aload_n {k0 : Fin 4} {i : Nat} {x : Nat} (hd : decode M.2.1 pc = .ok (.aload_n k0, 1)) (hi : (k0 : Nat) = i) (hx : lkp L i = some (.ref x)) (k : VF M d SH ι (pc + 1) L (.ref x :: st) σ o) : VF M d SH ι pc L (st) σ o :=
  fun z hz p l e R s m args below meth c E Q cells slots C hc hs F H locs ls hP hS hL => lv_aload_n C.1 C.2.1 hd hi (lkp_at hL hx) (k z hz p l e R s m args below meth c E Q cells slots C hc hs F H locs ls hP hS hL)
theorem v_aload {i : Nat} {x : Nat} (hd : decode M.2.1 pc = .ok (.aload i, 2)) (hx : lkp L i = some (.ref x)) (k : VF M d SH ι (pc + 2) L (.ref x :: st) σ o) : VF M d SH ι pc L (st) σ o :=
  fun z hz p l e R s m args below meth c E Q cells slots C hc hs F H locs ls hP hS hL => lv_aload C.1 C.2.1 hd (lkp_at hL hx) (k z hz p l e R s m args below meth c E Q cells slots C hc hs F H locs ls hP hS hL)
theorem v_istore_n {k0 : Fin 4} {i : Nat} {x : Int32} {L' : List (Nat × Value)} (hd : decode M.2.1 pc = .ok (.istore_n k0, 1)) (hi : (k0 : Nat) = i) (hn : i < M.2.2.1) (hl : lst1 L i (.int x) = L') (k : VF M d SH ι (pc + 1) L' st σ o) : VF M d SH ι pc L (.int x :: st) σ o :=
  fun z hz p l e R s m args below meth c E Q cells slots C hc hs F H locs ls hP hS hL => lv_istore_n C.1 C.2.1 hd hi hL hn ((lst1_cv E L i (.int x)).trans (by rw [hl])) (fun ls' hL' => k z hz p l e R s m args below meth c E Q cells slots C hc hs F H locs ls' hP hS hL')
theorem v_istore {i : Nat} {x : Int32} {L' : List (Nat × Value)} (hd : decode M.2.1 pc = .ok (.istore i, 2)) (hn : i < M.2.2.1) (hl : lst1 L i (.int x) = L') (k : VF M d SH ι (pc + 2) L' st σ o) : VF M d SH ι pc L (.int x :: st) σ o :=
  fun z hz p l e R s m args below meth c E Q cells slots C hc hs F H locs ls hP hS hL => lv_istore C.1 C.2.1 hd hL hn ((lst1_cv E L i (.int x)).trans (by rw [hl])) (fun ls' hL' => k z hz p l e R s m args below meth c E Q cells slots C hc hs F H locs ls' hP hS hL')
theorem v_lstore_n {k0 : Fin 4} {i : Nat} {x : Int64} {L' : List (Nat × Value)} (hd : decode M.2.1 pc = .ok (.lstore_n k0, 1)) (hi : (k0 : Nat) = i) (hn : i + 1 < M.2.2.1) (hl : lst2 L i (.long x) = L') (k : VF M d SH ι (pc + 1) L' st σ o) : VF M d SH ι pc L (.long x :: st) σ o :=
  fun z hz p l e R s m args below meth c E Q cells slots C hc hs F H locs ls hP hS hL => lv_lstore_n C.1 C.2.1 hd hi hL hn ((lst2_cv E L i (.long x)).trans (by rw [hl])) (fun ls' hL' => k z hz p l e R s m args below meth c E Q cells slots C hc hs F H locs ls' hP hS hL')
theorem v_lstore {i : Nat} {x : Int64} {L' : List (Nat × Value)} (hd : decode M.2.1 pc = .ok (.lstore i, 2)) (hn : i + 1 < M.2.2.1) (hl : lst2 L i (.long x) = L') (k : VF M d SH ι (pc + 2) L' st σ o) : VF M d SH ι pc L (.long x :: st) σ o :=
  fun z hz p l e R s m args below meth c E Q cells slots C hc hs F H locs ls hP hS hL => lv_lstore C.1 C.2.1 hd hL hn ((lst2_cv E L i (.long x)).trans (by rw [hl])) (fun ls' hL' => k z hz p l e R s m args below meth c E Q cells slots C hc hs F H locs ls' hP hS hL')
theorem v_astore_n {k0 : Fin 4} {i : Nat} {x : Nat} {L' : List (Nat × Value)} (hd : decode M.2.1 pc = .ok (.astore_n k0, 1)) (hi : (k0 : Nat) = i) (hn : i < M.2.2.1) (hl : lst1 L i (.ref x) = L') (k : VF M d SH ι (pc + 1) L' st σ o) : VF M d SH ι pc L (.ref x :: st) σ o :=
  fun z hz p l e R s m args below meth c E Q cells slots C hc hs F H locs ls hP hS hL => lv_astore_n C.1 C.2.1 hd hi hL hn ((lst1_cv E L i (.ref x)).trans (by rw [hl])) (fun ls' hL' => k z hz p l e R s m args below meth c E Q cells slots C hc hs F H locs ls' hP hS hL')
theorem v_astore {i : Nat} {x : Nat} {L' : List (Nat × Value)} (hd : decode M.2.1 pc = .ok (.astore i, 2)) (hn : i < M.2.2.1) (hl : lst1 L i (.ref x) = L') (k : VF M d SH ι (pc + 2) L' st σ o) : VF M d SH ι pc L (.ref x :: st) σ o :=
  fun z hz p l e R s m args below meth c E Q cells slots C hc hs F H locs ls hP hS hL => lv_astore C.1 C.2.1 hd hL hn ((lst1_cv E L i (.ref x)).trans (by rw [hl])) (fun ls' hL' => k z hz p l e R s m args below meth c E Q cells slots C hc hs F H locs ls' hP hS hL')
theorem v_iinc {i : Nat} {n : Int} {x v : Int32} {L' : List (Nat × Value)} (hd : decode M.2.1 pc = .ok (.iinc i n, 3)) (hx : lkp L i = some (.int x)) (hv : x + Int32.ofInt n = v) (hn : i < M.2.2.1) (hl : lst1 L i (.int v) = L') (k : VF M d SH ι (pc + 3) L' st σ o) : VF M d SH ι pc L st σ o := by
  intro z hz p l e R s m args below meth c E Q cells slots C hc hs F H locs ls hP hS hL
  have hg := lkp_at hL hx
  subst hv
  obtain ⟨ls', e', h'⟩ := lv_store1 (v := .int (x + Int32.ofInt n)) hL hn rfl
  have hL' : lv_has ls' M.2.2.1 (cvL E L') := by
    rw [← hl, ← lst1_cv E L i (.int (x + Int32.ofInt n))]
    exact h'
  have kk := k z hz p l e R s m args below meth c E Q cells slots C hc hs F H locs ls' hP hS hL'
  intro T hT X
  obtain ⟨t, a, b⟩ := kk T hT X
  refine ⟨t, ?_, b⟩
  have hexec := C.1
  have hb := C.2.1
  have hg2 : ls[i]? = some (.val (.int x)) := hg
  jvm_step X.here [X.here.top, ↓top_set X.here.top, hexec, hb, hd, hg2, e']
  exact a
theorem v_iadd {x y : Int32} (hd : decode M.2.1 pc = .ok (.iadd, 1))  (k : VF M d SH ι (pc + 1) L (.int (x + y) :: st) σ o) : VF M d SH ι pc L (.int y :: .int x :: st) σ o :=
  fun z hz p l e R s m args below meth c E Q cells slots C hc hs F H locs ls hP hS hL => lv_iadd C.1 C.2.1 hd  (k z hz p l e R s m args below meth c E Q cells slots C hc hs F H locs ls hP hS hL)
theorem v_isub {x y : Int32} (hd : decode M.2.1 pc = .ok (.isub, 1))  (k : VF M d SH ι (pc + 1) L (.int (x - y) :: st) σ o) : VF M d SH ι pc L (.int y :: .int x :: st) σ o :=
  fun z hz p l e R s m args below meth c E Q cells slots C hc hs F H locs ls hP hS hL => lv_isub C.1 C.2.1 hd  (k z hz p l e R s m args below meth c E Q cells slots C hc hs F H locs ls hP hS hL)
theorem v_imul {x y : Int32} (hd : decode M.2.1 pc = .ok (.imul, 1))  (k : VF M d SH ι (pc + 1) L (.int (x * y) :: st) σ o) : VF M d SH ι pc L (.int y :: .int x :: st) σ o :=
  fun z hz p l e R s m args below meth c E Q cells slots C hc hs F H locs ls hP hS hL => lv_imul C.1 C.2.1 hd  (k z hz p l e R s m args below meth c E Q cells slots C hc hs F H locs ls hP hS hL)
theorem v_iand {x y : Int32} (hd : decode M.2.1 pc = .ok (.iand, 1))  (k : VF M d SH ι (pc + 1) L (.int (x &&& y) :: st) σ o) : VF M d SH ι pc L (.int y :: .int x :: st) σ o :=
  fun z hz p l e R s m args below meth c E Q cells slots C hc hs F H locs ls hP hS hL => lv_iand C.1 C.2.1 hd  (k z hz p l e R s m args below meth c E Q cells slots C hc hs F H locs ls hP hS hL)
theorem v_ior {x y : Int32} (hd : decode M.2.1 pc = .ok (.ior, 1))  (k : VF M d SH ι (pc + 1) L (.int (x ||| y) :: st) σ o) : VF M d SH ι pc L (.int y :: .int x :: st) σ o :=
  fun z hz p l e R s m args below meth c E Q cells slots C hc hs F H locs ls hP hS hL => lv_ior C.1 C.2.1 hd  (k z hz p l e R s m args below meth c E Q cells slots C hc hs F H locs ls hP hS hL)
theorem v_ixor {x y : Int32} (hd : decode M.2.1 pc = .ok (.ixor, 1))  (k : VF M d SH ι (pc + 1) L (.int (x ^^^ y) :: st) σ o) : VF M d SH ι pc L (.int y :: .int x :: st) σ o :=
  fun z hz p l e R s m args below meth c E Q cells slots C hc hs F H locs ls hP hS hL => lv_ixor C.1 C.2.1 hd  (k z hz p l e R s m args below meth c E Q cells slots C hc hs F H locs ls hP hS hL)
theorem v_ladd {x y : Int64} (hd : decode M.2.1 pc = .ok (.ladd, 1))  (k : VF M d SH ι (pc + 1) L (.long (x + y) :: st) σ o) : VF M d SH ι pc L (.long y :: .long x :: st) σ o :=
  fun z hz p l e R s m args below meth c E Q cells slots C hc hs F H locs ls hP hS hL => lv_ladd C.1 C.2.1 hd  (k z hz p l e R s m args below meth c E Q cells slots C hc hs F H locs ls hP hS hL)
theorem v_lsub {x y : Int64} (hd : decode M.2.1 pc = .ok (.lsub, 1))  (k : VF M d SH ι (pc + 1) L (.long (x - y) :: st) σ o) : VF M d SH ι pc L (.long y :: .long x :: st) σ o :=
  fun z hz p l e R s m args below meth c E Q cells slots C hc hs F H locs ls hP hS hL => lv_lsub C.1 C.2.1 hd  (k z hz p l e R s m args below meth c E Q cells slots C hc hs F H locs ls hP hS hL)
theorem v_lmul {x y : Int64} (hd : decode M.2.1 pc = .ok (.lmul, 1))  (k : VF M d SH ι (pc + 1) L (.long (x * y) :: st) σ o) : VF M d SH ι pc L (.long y :: .long x :: st) σ o :=
  fun z hz p l e R s m args below meth c E Q cells slots C hc hs F H locs ls hP hS hL => lv_lmul C.1 C.2.1 hd  (k z hz p l e R s m args below meth c E Q cells slots C hc hs F H locs ls hP hS hL)
theorem v_land {x y : Int64} (hd : decode M.2.1 pc = .ok (.land, 1))  (k : VF M d SH ι (pc + 1) L (.long (x &&& y) :: st) σ o) : VF M d SH ι pc L (.long y :: .long x :: st) σ o :=
  fun z hz p l e R s m args below meth c E Q cells slots C hc hs F H locs ls hP hS hL => lv_land C.1 C.2.1 hd  (k z hz p l e R s m args below meth c E Q cells slots C hc hs F H locs ls hP hS hL)
theorem v_lor {x y : Int64} (hd : decode M.2.1 pc = .ok (.lor, 1))  (k : VF M d SH ι (pc + 1) L (.long (x ||| y) :: st) σ o) : VF M d SH ι pc L (.long y :: .long x :: st) σ o :=
  fun z hz p l e R s m args below meth c E Q cells slots C hc hs F H locs ls hP hS hL => lv_lor C.1 C.2.1 hd  (k z hz p l e R s m args below meth c E Q cells slots C hc hs F H locs ls hP hS hL)
theorem v_lxor {x y : Int64} (hd : decode M.2.1 pc = .ok (.lxor, 1))  (k : VF M d SH ι (pc + 1) L (.long (x ^^^ y) :: st) σ o) : VF M d SH ι pc L (.long y :: .long x :: st) σ o :=
  fun z hz p l e R s m args below meth c E Q cells slots C hc hs F H locs ls hP hS hL => lv_lxor C.1 C.2.1 hd  (k z hz p l e R s m args below meth c E Q cells slots C hc hs F H locs ls hP hS hL)
theorem v_idiv {x y : Int32} (hd : decode M.2.1 pc = .ok (.idiv, 1)) (k : ¬ y = 0 → VF M d SH ι (pc + 1) L (.int (x / y) :: st) σ o) : VF M d SH ι pc L (.int y :: .int x :: st) σ (if y = 0 then none else o) := by
  intro z hz p l e R s m args below meth c E Q cells slots C hc hs F H locs ls hP hS hL
  by_cases h : y = 0
  · rw [if_pos h] at hz; cases hz
  · rw [if_neg h] at hz
    exact lv_idiv C.1 C.2.1 hd h (k h z hz p l e R s m args below meth c E Q cells slots C hc hs F H locs ls hP hS hL)
theorem v_idiv' {x y : Int32} (hd : decode M.2.1 pc = .ok (.idiv, 1)) (h : ¬ y = 0) (k : VF M d SH ι (pc + 1) L (.int (x / y) :: st) σ o) : VF M d SH ι pc L (.int y :: .int x :: st) σ o :=
  fun z hz p l e R s m args below meth c E Q cells slots C hc hs F H locs ls hP hS hL => lv_idiv C.1 C.2.1 hd h (k z hz p l e R s m args below meth c E Q cells slots C hc hs F H locs ls hP hS hL)
theorem v_irem {x y : Int32} (hd : decode M.2.1 pc = .ok (.irem, 1)) (k : ¬ y = 0 → VF M d SH ι (pc + 1) L (.int (x - x / y * y) :: st) σ o) : VF M d SH ι pc L (.int y :: .int x :: st) σ (if y = 0 then none else o) := by
  intro z hz p l e R s m args below meth c E Q cells slots C hc hs F H locs ls hP hS hL
  by_cases h : y = 0
  · rw [if_pos h] at hz; cases hz
  · rw [if_neg h] at hz
    exact lv_irem C.1 C.2.1 hd h (k h z hz p l e R s m args below meth c E Q cells slots C hc hs F H locs ls hP hS hL)
theorem v_irem' {x y : Int32} (hd : decode M.2.1 pc = .ok (.irem, 1)) (h : ¬ y = 0) (k : VF M d SH ι (pc + 1) L (.int (x - x / y * y) :: st) σ o) : VF M d SH ι pc L (.int y :: .int x :: st) σ o :=
  fun z hz p l e R s m args below meth c E Q cells slots C hc hs F H locs ls hP hS hL => lv_irem C.1 C.2.1 hd h (k z hz p l e R s m args below meth c E Q cells slots C hc hs F H locs ls hP hS hL)
theorem v_ldiv {x y : Int64} (hd : decode M.2.1 pc = .ok (.ldiv, 1)) (k : ¬ y = 0 → VF M d SH ι (pc + 1) L (.long (x / y) :: st) σ o) : VF M d SH ι pc L (.long y :: .long x :: st) σ (if y = 0 then none else o) := by
  intro z hz p l e R s m args below meth c E Q cells slots C hc hs F H locs ls hP hS hL
  by_cases h : y = 0
  · rw [if_pos h] at hz; cases hz
  · rw [if_neg h] at hz
    exact lv_ldiv C.1 C.2.1 hd h (k h z hz p l e R s m args below meth c E Q cells slots C hc hs F H locs ls hP hS hL)
theorem v_ldiv' {x y : Int64} (hd : decode M.2.1 pc = .ok (.ldiv, 1)) (h : ¬ y = 0) (k : VF M d SH ι (pc + 1) L (.long (x / y) :: st) σ o) : VF M d SH ι pc L (.long y :: .long x :: st) σ o :=
  fun z hz p l e R s m args below meth c E Q cells slots C hc hs F H locs ls hP hS hL => lv_ldiv C.1 C.2.1 hd h (k z hz p l e R s m args below meth c E Q cells slots C hc hs F H locs ls hP hS hL)
theorem v_lrem {x y : Int64} (hd : decode M.2.1 pc = .ok (.lrem, 1)) (k : ¬ y = 0 → VF M d SH ι (pc + 1) L (.long (x - x / y * y) :: st) σ o) : VF M d SH ι pc L (.long y :: .long x :: st) σ (if y = 0 then none else o) := by
  intro z hz p l e R s m args below meth c E Q cells slots C hc hs F H locs ls hP hS hL
  by_cases h : y = 0
  · rw [if_pos h] at hz; cases hz
  · rw [if_neg h] at hz
    exact lv_lrem C.1 C.2.1 hd h (k h z hz p l e R s m args below meth c E Q cells slots C hc hs F H locs ls hP hS hL)
theorem v_lrem' {x y : Int64} (hd : decode M.2.1 pc = .ok (.lrem, 1)) (h : ¬ y = 0) (k : VF M d SH ι (pc + 1) L (.long (x - x / y * y) :: st) σ o) : VF M d SH ι pc L (.long y :: .long x :: st) σ o :=
  fun z hz p l e R s m args below meth c E Q cells slots C hc hs F H locs ls hP hS hL => lv_lrem C.1 C.2.1 hd h (k z hz p l e R s m args below meth c E Q cells slots C hc hs F H locs ls hP hS hL)
theorem v_ineg {x : Int32} (hd : decode M.2.1 pc = .ok (.ineg, 1))  (k : VF M d SH ι (pc + 1) L (.int (-x) :: st) σ o) : VF M d SH ι pc L (.int x :: st) σ o :=
  fun z hz p l e R s m args below meth c E Q cells slots C hc hs F H locs ls hP hS hL => lv_ineg C.1 C.2.1 hd  (k z hz p l e R s m args below meth c E Q cells slots C hc hs F H locs ls hP hS hL)
theorem v_ishl {x y : Int32} (hd : decode M.2.1 pc = .ok (.ishl, 1))  (k : VF M d SH ι (pc + 1) L (.int (x <<< (y &&& 31)) :: st) σ o) : VF M d SH ι pc L (.int y :: .int x :: st) σ o :=
  fun z hz p l e R s m args below meth c E Q cells slots C hc hs F H locs ls hP hS hL => lv_ishl C.1 C.2.1 hd  (k z hz p l e R s m args below meth c E Q cells slots C hc hs F H locs ls hP hS hL)
theorem v_ishr {x y : Int32} (hd : decode M.2.1 pc = .ok (.ishr, 1))  (k : VF M d SH ι (pc + 1) L (.int (x >>> (y &&& 31)) :: st) σ o) : VF M d SH ι pc L (.int y :: .int x :: st) σ o :=
  fun z hz p l e R s m args below meth c E Q cells slots C hc hs F H locs ls hP hS hL => lv_ishr C.1 C.2.1 hd  (k z hz p l e R s m args below meth c E Q cells slots C hc hs F H locs ls hP hS hL)
theorem v_iushr {x y : Int32} (hd : decode M.2.1 pc = .ok (.iushr, 1))  (k : VF M d SH ι (pc + 1) L (.int ((x.toUInt32 >>> (y.toUInt32 &&& Int32.toUInt32 31)).toInt32) :: st) σ o) : VF M d SH ι pc L (.int y :: .int x :: st) σ o :=
  fun z hz p l e R s m args below meth c E Q cells slots C hc hs F H locs ls hP hS hL => lv_iushr C.1 C.2.1 hd rfl (k z hz p l e R s m args below meth c E Q cells slots C hc hs F H locs ls hP hS hL)
theorem v_lushr {x : Int64} {y : Int32} (hd : decode M.2.1 pc = .ok (.lushr, 1))  (k : VF M d SH ι (pc + 1) L (.long ((x.toUInt64 >>> (y.toInt64.toUInt64 &&& Int64.toUInt64 63)).toInt64) :: st) σ o) : VF M d SH ι pc L (.int y :: .long x :: st) σ o :=
  fun z hz p l e R s m args below meth c E Q cells slots C hc hs F H locs ls hP hS hL => lv_lushr C.1 C.2.1 hd rfl (k z hz p l e R s m args below meth c E Q cells slots C hc hs F H locs ls hP hS hL)
theorem v_lshl {x : Int64} {y : Int32} (hd : decode M.2.1 pc = .ok (.lshl, 1))  (k : VF M d SH ι (pc + 1) L (.long (x <<< (y.toInt64 &&& 63)) :: st) σ o) : VF M d SH ι pc L (.int y :: .long x :: st) σ o :=
  fun z hz p l e R s m args below meth c E Q cells slots C hc hs F H locs ls hP hS hL => lv_lshl C.1 C.2.1 hd rfl (k z hz p l e R s m args below meth c E Q cells slots C hc hs F H locs ls hP hS hL)
theorem v_lshr {x : Int64} {y : Int32} (hd : decode M.2.1 pc = .ok (.lshr, 1))  (k : VF M d SH ι (pc + 1) L (.long (x >>> (y.toInt64 &&& 63)) :: st) σ o) : VF M d SH ι pc L (.int y :: .long x :: st) σ o :=
  fun z hz p l e R s m args below meth c E Q cells slots C hc hs F H locs ls hP hS hL => lv_lshr C.1 C.2.1 hd rfl (k z hz p l e R s m args below meth c E Q cells slots C hc hs F H locs ls hP hS hL)
theorem v_i2l {x : Int32} (hd : decode M.2.1 pc = .ok (.i2l, 1))  (k : VF M d SH ι (pc + 1) L (.long x.toInt64 :: st) σ o) : VF M d SH ι pc L (.int x :: st) σ o :=
  fun z hz p l e R s m args below meth c E Q cells slots C hc hs F H locs ls hP hS hL => lv_i2l C.1 C.2.1 hd rfl (k z hz p l e R s m args below meth c E Q cells slots C hc hs F H locs ls hP hS hL)
theorem v_l2i {x : Int64} (hd : decode M.2.1 pc = .ok (.l2i, 1))  (k : VF M d SH ι (pc + 1) L (.int x.toInt32 :: st) σ o) : VF M d SH ι pc L (.long x :: st) σ o :=
  fun z hz p l e R s m args below meth c E Q cells slots C hc hs F H locs ls hP hS hL => lv_l2i C.1 C.2.1 hd rfl (k z hz p l e R s m args below meth c E Q cells slots C hc hs F H locs ls hP hS hL)
theorem v_i2b {x : Int32} (hd : decode M.2.1 pc = .ok (.i2b, 1))  (k : VF M d SH ι (pc + 1) L (.int x.toInt8.toInt32 :: st) σ o) : VF M d SH ι pc L (.int x :: st) σ o :=
  fun z hz p l e R s m args below meth c E Q cells slots C hc hs F H locs ls hP hS hL => lv_i2b C.1 C.2.1 hd rfl (k z hz p l e R s m args below meth c E Q cells slots C hc hs F H locs ls hP hS hL)
theorem v_i2s {x : Int32} (hd : decode M.2.1 pc = .ok (.i2s, 1))  (k : VF M d SH ι (pc + 1) L (.int x.toInt16.toInt32 :: st) σ o) : VF M d SH ι pc L (.int x :: st) σ o :=
  fun z hz p l e R s m args below meth c E Q cells slots C hc hs F H locs ls hP hS hL => lv_i2s C.1 C.2.1 hd rfl (k z hz p l e R s m args below meth c E Q cells slots C hc hs F H locs ls hP hS hL)
theorem v_i2c {x : Int32} (hd : decode M.2.1 pc = .ok (.i2c, 1))  (k : VF M d SH ι (pc + 1) L (.int (x.toUInt32 % 65536).toInt32 :: st) σ o) : VF M d SH ι pc L (.int x :: st) σ o :=
  fun z hz p l e R s m args below meth c E Q cells slots C hc hs F H locs ls hP hS hL => lv_i2c C.1 C.2.1 hd rfl (k z hz p l e R s m args below meth c E Q cells slots C hc hs F H locs ls hP hS hL)
theorem v_dup {v : Value} (hd : decode M.2.1 pc = .ok (.dup, 1)) (hv : v.category = 1) (k : VF M d SH ι (pc + 1) L (v :: v :: st) σ o) : VF M d SH ι pc L (v :: st) σ o :=
  fun z hz p l e R s m args below meth c E Q cells slots C hc hs F H locs ls hP hS hL => lv_dup C.1 C.2.1 hd ((cv_cat E v).trans hv) (k z hz p l e R s m args below meth c E Q cells slots C hc hs F H locs ls hP hS hL)
theorem v_dup_x1 {v w : Value} (hd : decode M.2.1 pc = .ok (.dup_x1, 1)) (hv : v.category = 1) (hw : w.category = 1) (k : VF M d SH ι (pc + 1) L (v :: w :: v :: st) σ o) : VF M d SH ι pc L (v :: w :: st) σ o :=
  fun z hz p l e R s m args below meth c E Q cells slots C hc hs F H locs ls hP hS hL => lv_dup_x1 C.1 C.2.1 hd ((cv_cat E v).trans hv) ((cv_cat E w).trans hw) (k z hz p l e R s m args below meth c E Q cells slots C hc hs F H locs ls hP hS hL)
theorem v_dup_x2 {v w u : Value} (hd : decode M.2.1 pc = .ok (.dup_x2, 1)) (hv : v.category = 1) (hw : w.category = 1) (hu : u.category = 1) (k : VF M d SH ι (pc + 1) L (v :: w :: u :: v :: st) σ o) : VF M d SH ι pc L (v :: w :: u :: st) σ o :=
  fun z hz p l e R s m args below meth c E Q cells slots C hc hs F H locs ls hP hS hL => lv_dup_x2 C.1 C.2.1 hd ((cv_cat E v).trans hv) ((cv_cat E w).trans hw) ((cv_cat E u).trans hu) (k z hz p l e R s m args below meth c E Q cells slots C hc hs F H locs ls hP hS hL)
theorem v_dup2 {v w : Value} (hd : decode M.2.1 pc = .ok (.dup2, 1)) (hv : v.category = 1) (hw : w.category = 1) (k : VF M d SH ι (pc + 1) L (v :: w :: v :: w :: st) σ o) : VF M d SH ι pc L (v :: w :: st) σ o :=
  fun z hz p l e R s m args below meth c E Q cells slots C hc hs F H locs ls hP hS hL => lv_dup2_11 C.1 C.2.1 hd ((cv_cat E v).trans hv) ((cv_cat E w).trans hw) (k z hz p l e R s m args below meth c E Q cells slots C hc hs F H locs ls hP hS hL)
theorem v_pop {v : Value} (hd : decode M.2.1 pc = .ok (.pop, 1)) (hv : v.category = 1) (k : VF M d SH ι (pc + 1) L (st) σ o) : VF M d SH ι pc L (v :: st) σ o :=
  fun z hz p l e R s m args below meth c E Q cells slots C hc hs F H locs ls hP hS hL => lv_pop C.1 C.2.1 hd ((cv_cat E v).trans hv) (k z hz p l e R s m args below meth c E Q cells slots C hc hs F H locs ls hP hS hL)
theorem v_goto {off : Int} {tgt : Nat} (hd : decode M.2.1 pc = .ok (.goto off, 3)) (ht : (pc : Int) + off = (tgt : Int)) (k : VF M d SH ι tgt L st σ o) : VF M d SH ι pc L st σ o :=
  fun z hz p l e R s m args below meth c E Q cells slots C hc hs F H locs ls hP hS hL => lv_goto C.1 C.2.1 hd ht (k z hz p l e R s m args below meth c E Q cells slots C hc hs F H locs ls hP hS hL)
theorem v_lcmp {x y : Int64} (hd : decode M.2.1 pc = .ok (.lcmp, 1)) (k : VF M d SH ι (pc + 1) L (.int (lg_cmp x y) :: st) σ o) : VF M d SH ι pc L (.long y :: .long x :: st) σ o :=
  fun z hz p l e R s m args below meth c E Q cells slots C hc hs F H locs ls hP hS hL => W.lcmp C.1 C.2.1 hd (k z hz p l e R s m args below meth c E Q cells slots C hc hs F H locs ls hP hS hL)
theorem v_if_eq {x : Int32} {off : Int} {tgt : Nat} (hd : decode M.2.1 pc = .ok (.ifCond .eq off, 3)) (ht : (pc : Int) + off = (tgt : Int)) (kt : x = 0 → VF M d SH ι tgt L st σ o1) (kf : ¬ x = 0 → VF M d SH ι (pc + 3) L st σ o2) : VF M d SH ι pc L (.int x :: st) σ (if x = 0 then o1 else o2) := by
  intro z hz p l e R s m args below meth c E Q cells slots C hc hs F H locs ls hP hS hL
  exact lv_if_eq C.1 C.2.1 hd ht (fun h => kt h z (by rw [if_pos h] at hz; exact hz) p l e R s m args below meth c E Q cells slots C hc hs F H locs ls hP hS hL) (fun h => kf h z (by rw [if_neg h] at hz; exact hz) p l e R s m args below meth c E Q cells slots C hc hs F H locs ls hP hS hL)
theorem v_if_eqJ {x : Int32} {off : Int} {tgt : Nat} {β : Type} {a1 a2 : Option β} {K : β → Option α} (hd : decode M.2.1 pc = .ok (.ifCond .eq off, 3)) (ht : (pc : Int) + off = (tgt : Int)) (kt : x = 0 → VF M d SH ι tgt L st σ (Option.bind a1 K)) (kf : ¬ x = 0 → VF M d SH ι (pc + 3) L st σ (Option.bind a2 K)) : VF M d SH ι pc L (.int x :: st) σ (Option.bind (if x = 0 then a1 else a2) K) := by
  have e : (Option.bind (if x = 0 then a1 else a2) K) = (if x = 0 then (Option.bind a1 K) else (Option.bind a2 K)) := by split <;> rfl
  rw [e]
  exact v_if_eq hd ht kt kf
theorem v_icmp_eq {x y : Int32} {off : Int} {tgt : Nat} (hd : decode M.2.1 pc = .ok (.if_icmp .eq off, 3)) (ht : (pc : Int) + off = (tgt : Int)) (kt : x = y → VF M d SH ι tgt L st σ o1) (kf : ¬ x = y → VF M d SH ι (pc + 3) L st σ o2) : VF M d SH ι pc L (.int y :: .int x :: st) σ (if x = y then o1 else o2) := by
  intro z hz p l e R s m args below meth c E Q cells slots C hc hs F H locs ls hP hS hL
  exact lv_icmp_eq C.1 C.2.1 hd ht (fun h => kt h z (by rw [if_pos h] at hz; exact hz) p l e R s m args below meth c E Q cells slots C hc hs F H locs ls hP hS hL) (fun h => kf h z (by rw [if_neg h] at hz; exact hz) p l e R s m args below meth c E Q cells slots C hc hs F H locs ls hP hS hL)
theorem v_icmp_eqJ {x y : Int32} {off : Int} {tgt : Nat} {β : Type} {a1 a2 : Option β} {K : β → Option α} (hd : decode M.2.1 pc = .ok (.if_icmp .eq off, 3)) (ht : (pc : Int) + off = (tgt : Int)) (kt : x = y → VF M d SH ι tgt L st σ (Option.bind a1 K)) (kf : ¬ x = y → VF M d SH ι (pc + 3) L st σ (Option.bind a2 K)) : VF M d SH ι pc L (.int y :: .int x :: st) σ (Option.bind (if x = y then a1 else a2) K) := by
  have e : (Option.bind (if x = y then a1 else a2) K) = (if x = y then (Option.bind a1 K) else (Option.bind a2 K)) := by split <;> rfl
  rw [e]
  exact v_icmp_eq hd ht kt kf
theorem v_if_ne {x : Int32} {off : Int} {tgt : Nat} (hd : decode M.2.1 pc = .ok (.ifCond .ne off, 3)) (ht : (pc : Int) + off = (tgt : Int)) (kt : ¬ x = 0 → VF M d SH ι tgt L st σ o1) (kf : x = 0 → VF M d SH ι (pc + 3) L st σ o2) : VF M d SH ι pc L (.int x :: st) σ (if x = 0 then o2 else o1) := by
  intro z hz p l e R s m args below meth c E Q cells slots C hc hs F H locs ls hP hS hL
  exact lv_if_ne C.1 C.2.1 hd ht (fun h => kt h z (by rw [if_neg h] at hz; exact hz) p l e R s m args below meth c E Q cells slots C hc hs F H locs ls hP hS hL) (fun h => kf h z (by rw [if_pos h] at hz; exact hz) p l e R s m args below meth c E Q cells slots C hc hs F H locs ls hP hS hL)
theorem v_if_neJ {x : Int32} {off : Int} {tgt : Nat} {β : Type} {a1 a2 : Option β} {K : β → Option α} (hd : decode M.2.1 pc = .ok (.ifCond .ne off, 3)) (ht : (pc : Int) + off = (tgt : Int)) (kt : ¬ x = 0 → VF M d SH ι tgt L st σ (Option.bind a1 K)) (kf : x = 0 → VF M d SH ι (pc + 3) L st σ (Option.bind a2 K)) : VF M d SH ι pc L (.int x :: st) σ (Option.bind (if x = 0 then a2 else a1) K) := by
  have e : (Option.bind (if x = 0 then a2 else a1) K) = (if x = 0 then (Option.bind a2 K) else (Option.bind a1 K)) := by split <;> rfl
  rw [e]
  exact v_if_ne hd ht kt kf
theorem v_icmp_ne {x y : Int32} {off : Int} {tgt : Nat} (hd : decode M.2.1 pc = .ok (.if_icmp .ne off, 3)) (ht : (pc : Int) + off = (tgt : Int)) (kt : ¬ x = y → VF M d SH ι tgt L st σ o1) (kf : x = y → VF M d SH ι (pc + 3) L st σ o2) : VF M d SH ι pc L (.int y :: .int x :: st) σ (if x = y then o2 else o1) := by
  intro z hz p l e R s m args below meth c E Q cells slots C hc hs F H locs ls hP hS hL
  exact lv_icmp_ne C.1 C.2.1 hd ht (fun h => kt h z (by rw [if_neg h] at hz; exact hz) p l e R s m args below meth c E Q cells slots C hc hs F H locs ls hP hS hL) (fun h => kf h z (by rw [if_pos h] at hz; exact hz) p l e R s m args below meth c E Q cells slots C hc hs F H locs ls hP hS hL)
theorem v_icmp_neJ {x y : Int32} {off : Int} {tgt : Nat} {β : Type} {a1 a2 : Option β} {K : β → Option α} (hd : decode M.2.1 pc = .ok (.if_icmp .ne off, 3)) (ht : (pc : Int) + off = (tgt : Int)) (kt : ¬ x = y → VF M d SH ι tgt L st σ (Option.bind a1 K)) (kf : x = y → VF M d SH ι (pc + 3) L st σ (Option.bind a2 K)) : VF M d SH ι pc L (.int y :: .int x :: st) σ (Option.bind (if x = y then a2 else a1) K) := by
  have e : (Option.bind (if x = y then a2 else a1) K) = (if x = y then (Option.bind a2 K) else (Option.bind a1 K)) := by split <;> rfl
  rw [e]
  exact v_icmp_ne hd ht kt kf
theorem v_if_lt {x : Int32} {off : Int} {tgt : Nat} (hd : decode M.2.1 pc = .ok (.ifCond .lt off, 3)) (ht : (pc : Int) + off = (tgt : Int)) (kt : x < 0 → VF M d SH ι tgt L st σ o1) (kf : ¬ x < 0 → VF M d SH ι (pc + 3) L st σ o2) : VF M d SH ι pc L (.int x :: st) σ (if x < 0 then o1 else o2) := by
  intro z hz p l e R s m args below meth c E Q cells slots C hc hs F H locs ls hP hS hL
  exact lv_if_lt C.1 C.2.1 hd ht (fun h => kt h z (by rw [if_pos h] at hz; exact hz) p l e R s m args below meth c E Q cells slots C hc hs F H locs ls hP hS hL) (fun h => kf h z (by rw [if_neg h] at hz; exact hz) p l e R s m args below meth c E Q cells slots C hc hs F H locs ls hP hS hL)
theorem v_if_ltJ {x : Int32} {off : Int} {tgt : Nat} {β : Type} {a1 a2 : Option β} {K : β → Option α} (hd : decode M.2.1 pc = .ok (.ifCond .lt off, 3)) (ht : (pc : Int) + off = (tgt : Int)) (kt : x < 0 → VF M d SH ι tgt L st σ (Option.bind a1 K)) (kf : ¬ x < 0 → VF M d SH ι (pc + 3) L st σ (Option.bind a2 K)) : VF M d SH ι pc L (.int x :: st) σ (Option.bind (if x < 0 then a1 else a2) K) := by
  have e : (Option.bind (if x < 0 then a1 else a2) K) = (if x < 0 then (Option.bind a1 K) else (Option.bind a2 K)) := by split <;> rfl
  rw [e]
  exact v_if_lt hd ht kt kf
theorem v_icmp_lt {x y : Int32} {off : Int} {tgt : Nat} (hd : decode M.2.1 pc = .ok (.if_icmp .lt off, 3)) (ht : (pc : Int) + off = (tgt : Int)) (kt : x < y → VF M d SH ι tgt L st σ o1) (kf : ¬ x < y → VF M d SH ι (pc + 3) L st σ o2) : VF M d SH ι pc L (.int y :: .int x :: st) σ (if x < y then o1 else o2) := by
  intro z hz p l e R s m args below meth c E Q cells slots C hc hs F H locs ls hP hS hL
  exact lv_icmp_lt C.1 C.2.1 hd ht (fun h => kt h z (by rw [if_pos h] at hz; exact hz) p l e R s m args below meth c E Q cells slots C hc hs F H locs ls hP hS hL) (fun h => kf h z (by rw [if_neg h] at hz; exact hz) p l e R s m args below meth c E Q cells slots C hc hs F H locs ls hP hS hL)
theorem v_icmp_ltJ {x y : Int32} {off : Int} {tgt : Nat} {β : Type} {a1 a2 : Option β} {K : β → Option α} (hd : decode M.2.1 pc = .ok (.if_icmp .lt off, 3)) (ht : (pc : Int) + off = (tgt : Int)) (kt : x < y → VF M d SH ι tgt L st σ (Option.bind a1 K)) (kf : ¬ x < y → VF M d SH ι (pc + 3) L st σ (Option.bind a2 K)) : VF M d SH ι pc L (.int y :: .int x :: st) σ (Option.bind (if x < y then a1 else a2) K) := by
  have e : (Option.bind (if x < y then a1 else a2) K) = (if x < y then (Option.bind a1 K) else (Option.bind a2 K)) := by split <;> rfl
  rw [e]
  exact v_icmp_lt hd ht kt kf
theorem v_if_ge {x : Int32} {off : Int} {tgt : Nat} (hd : decode M.2.1 pc = .ok (.ifCond .ge off, 3)) (ht : (pc : Int) + off = (tgt : Int)) (kt : 0 ≤ x → VF M d SH ι tgt L st σ o1) (kf : ¬ 0 ≤ x → VF M d SH ι (pc + 3) L st σ o2) : VF M d SH ι pc L (.int x :: st) σ (if 0 ≤ x then o1 else o2) := by
  intro z hz p l e R s m args below meth c E Q cells slots C hc hs F H locs ls hP hS hL
  exact lv_if_ge C.1 C.2.1 hd ht (fun h => kt h z (by rw [if_pos h] at hz; exact hz) p l e R s m args below meth c E Q cells slots C hc hs F H locs ls hP hS hL) (fun h => kf h z (by rw [if_neg h] at hz; exact hz) p l e R s m args below meth c E Q cells slots C hc hs F H locs ls hP hS hL)
theorem v_if_geJ {x : Int32} {off : Int} {tgt : Nat} {β : Type} {a1 a2 : Option β} {K : β → Option α} (hd : decode M.2.1 pc = .ok (.ifCond .ge off, 3)) (ht : (pc : Int) + off = (tgt : Int)) (kt : 0 ≤ x → VF M d SH ι tgt L st σ (Option.bind a1 K)) (kf : ¬ 0 ≤ x → VF M d SH ι (pc + 3) L st σ (Option.bind a2 K)) : VF M d SH ι pc L (.int x :: st) σ (Option.bind (if 0 ≤ x then a1 else a2) K) := by
  have e : (Option.bind (if 0 ≤ x then a1 else a2) K) = (if 0 ≤ x then (Option.bind a1 K) else (Option.bind a2 K)) := by split <;> rfl
  rw [e]
  exact v_if_ge hd ht kt kf
theorem v_icmp_ge {x y : Int32} {off : Int} {tgt : Nat} (hd : decode M.2.1 pc = .ok (.if_icmp .ge off, 3)) (ht : (pc : Int) + off = (tgt : Int)) (kt : y ≤ x → VF M d SH ι tgt L st σ o1) (kf : ¬ y ≤ x → VF M d SH ι (pc + 3) L st σ o2) : VF M d SH ι pc L (.int y :: .int x :: st) σ (if y ≤ x then o1 else o2) := by
  intro z hz p l e R s m args below meth c E Q cells slots C hc hs F H locs ls hP hS hL
  exact lv_icmp_ge C.1 C.2.1 hd ht (fun h => kt h z (by rw [if_pos h] at hz; exact hz) p l e R s m args below meth c E Q cells slots C hc hs F H locs ls hP hS hL) (fun h => kf h z (by rw [if_neg h] at hz; exact hz) p l e R s m args below meth c E Q cells slots C hc hs F H locs ls hP hS hL)
theorem v_icmp_geJ {x y : Int32} {off : Int} {tgt : Nat} {β : Type} {a1 a2 : Option β} {K : β → Option α} (hd : decode M.2.1 pc = .ok (.if_icmp .ge off, 3)) (ht : (pc : Int) + off = (tgt : Int)) (kt : y ≤ x → VF M d SH ι tgt L st σ (Option.bind a1 K)) (kf : ¬ y ≤ x → VF M d SH ι (pc + 3) L st σ (Option.bind a2 K)) : VF M d SH ι pc L (.int y :: .int x :: st) σ (Option.bind (if y ≤ x then a1 else a2) K) := by
  have e : (Option.bind (if y ≤ x then a1 else a2) K) = (if y ≤ x then (Option.bind a1 K) else (Option.bind a2 K)) := by split <;> rfl
  rw [e]
  exact v_icmp_ge hd ht kt kf
theorem v_if_gt {x : Int32} {off : Int} {tgt : Nat} (hd : decode M.2.1 pc = .ok (.ifCond .gt off, 3)) (ht : (pc : Int) + off = (tgt : Int)) (kt : 0 < x → VF M d SH ι tgt L st σ o1) (kf : ¬ 0 < x → VF M d SH ι (pc + 3) L st σ o2) : VF M d SH ι pc L (.int x :: st) σ (if 0 < x then o1 else o2) := by
  intro z hz p l e R s m args below meth c E Q cells slots C hc hs F H locs ls hP hS hL
  exact lv_if_gt C.1 C.2.1 hd ht (fun h => kt h z (by rw [if_pos h] at hz; exact hz) p l e R s m args below meth c E Q cells slots C hc hs F H locs ls hP hS hL) (fun h => kf h z (by rw [if_neg h] at hz; exact hz) p l e R s m args below meth c E Q cells slots C hc hs F H locs ls hP hS hL)
theorem v_if_gtJ {x : Int32} {off : Int} {tgt : Nat} {β : Type} {a1 a2 : Option β} {K : β → Option α} (hd : decode M.2.1 pc = .ok (.ifCond .gt off, 3)) (ht : (pc : Int) + off = (tgt : Int)) (kt : 0 < x → VF M d SH ι tgt L st σ (Option.bind a1 K)) (kf : ¬ 0 < x → VF M d SH ι (pc + 3) L st σ (Option.bind a2 K)) : VF M d SH ι pc L (.int x :: st) σ (Option.bind (if 0 < x then a1 else a2) K) := by
  have e : (Option.bind (if 0 < x then a1 else a2) K) = (if 0 < x then (Option.bind a1 K) else (Option.bind a2 K)) := by split <;> rfl
  rw [e]
  exact v_if_gt hd ht kt kf
theorem v_icmp_gt {x y : Int32} {off : Int} {tgt : Nat} (hd : decode M.2.1 pc = .ok (.if_icmp .gt off, 3)) (ht : (pc : Int) + off = (tgt : Int)) (kt : y < x → VF M d SH ι tgt L st σ o1) (kf : ¬ y < x → VF M d SH ι (pc + 3) L st σ o2) : VF M d SH ι pc L (.int y :: .int x :: st) σ (if y < x then o1 else o2) := by
  intro z hz p l e R s m args below meth c E Q cells slots C hc hs F H locs ls hP hS hL
  exact lv_icmp_gt C.1 C.2.1 hd ht (fun h => kt h z (by rw [if_pos h] at hz; exact hz) p l e R s m args below meth c E Q cells slots C hc hs F H locs ls hP hS hL) (fun h => kf h z (by rw [if_neg h] at hz; exact hz) p l e R s m args below meth c E Q cells slots C hc hs F H locs ls hP hS hL)
theorem v_icmp_gtJ {x y : Int32} {off : Int} {tgt : Nat} {β : Type} {a1 a2 : Option β} {K : β → Option α} (hd : decode M.2.1 pc = .ok (.if_icmp .gt off, 3)) (ht : (pc : Int) + off = (tgt : Int)) (kt : y < x → VF M d SH ι tgt L st σ (Option.bind a1 K)) (kf : ¬ y < x → VF M d SH ι (pc + 3) L st σ (Option.bind a2 K)) : VF M d SH ι pc L (.int y :: .int x :: st) σ (Option.bind (if y < x then a1 else a2) K) := by
  have e : (Option.bind (if y < x then a1 else a2) K) = (if y < x then (Option.bind a1 K) else (Option.bind a2 K)) := by split <;> rfl
  rw [e]
  exact v_icmp_gt hd ht kt kf
theorem v_if_le {x : Int32} {off : Int} {tgt : Nat} (hd : decode M.2.1 pc = .ok (.ifCond .le off, 3)) (ht : (pc : Int) + off = (tgt : Int)) (kt : x ≤ 0 → VF M d SH ι tgt L st σ o1) (kf : ¬ x ≤ 0 → VF M d SH ι (pc + 3) L st σ o2) : VF M d SH ι pc L (.int x :: st) σ (if x ≤ 0 then o1 else o2) := by
  intro z hz p l e R s m args below meth c E Q cells slots C hc hs F H locs ls hP hS hL
  exact lv_if_le C.1 C.2.1 hd ht (fun h => kt h z (by rw [if_pos h] at hz; exact hz) p l e R s m args below meth c E Q cells slots C hc hs F H locs ls hP hS hL) (fun h => kf h z (by rw [if_neg h] at hz; exact hz) p l e R s m args below meth c E Q cells slots C hc hs F H locs ls hP hS hL)
theorem v_if_leJ {x : Int32} {off : Int} {tgt : Nat} {β : Type} {a1 a2 : Option β} {K : β → Option α} (hd : decode M.2.1 pc = .ok (.ifCond .le off, 3)) (ht : (pc : Int) + off = (tgt : Int)) (kt : x ≤ 0 → VF M d SH ι tgt L st σ (Option.bind a1 K)) (kf : ¬ x ≤ 0 → VF M d SH ι (pc + 3) L st σ (Option.bind a2 K)) : VF M d SH ι pc L (.int x :: st) σ (Option.bind (if x ≤ 0 then a1 else a2) K) := by
  have e : (Option.bind (if x ≤ 0 then a1 else a2) K) = (if x ≤ 0 then (Option.bind a1 K) else (Option.bind a2 K)) := by split <;> rfl
  rw [e]
  exact v_if_le hd ht kt kf
theorem v_icmp_le {x y : Int32} {off : Int} {tgt : Nat} (hd : decode M.2.1 pc = .ok (.if_icmp .le off, 3)) (ht : (pc : Int) + off = (tgt : Int)) (kt : x ≤ y → VF M d SH ι tgt L st σ o1) (kf : ¬ x ≤ y → VF M d SH ι (pc + 3) L st σ o2) : VF M d SH ι pc L (.int y :: .int x :: st) σ (if x ≤ y then o1 else o2) := by
  intro z hz p l e R s m args below meth c E Q cells slots C hc hs F H locs ls hP hS hL
  exact lv_icmp_le C.1 C.2.1 hd ht (fun h => kt h z (by rw [if_pos h] at hz; exact hz) p l e R s m args below meth c E Q cells slots C hc hs F H locs ls hP hS hL) (fun h => kf h z (by rw [if_neg h] at hz; exact hz) p l e R s m args below meth c E Q cells slots C hc hs F H locs ls hP hS hL)
theorem v_icmp_leJ {x y : Int32} {off : Int} {tgt : Nat} {β : Type} {a1 a2 : Option β} {K : β → Option α} (hd : decode M.2.1 pc = .ok (.if_icmp .le off, 3)) (ht : (pc : Int) + off = (tgt : Int)) (kt : x ≤ y → VF M d SH ι tgt L st σ (Option.bind a1 K)) (kf : ¬ x ≤ y → VF M d SH ι (pc + 3) L st σ (Option.bind a2 K)) : VF M d SH ι pc L (.int y :: .int x :: st) σ (Option.bind (if x ≤ y then a1 else a2) K) := by
  have e : (Option.bind (if x ≤ y then a1 else a2) K) = (if x ≤ y then (Option.bind a1 K) else (Option.bind a2 K)) := by split <;> rfl
  rw [e]
  exact v_icmp_le hd ht kt kf
end VFS
