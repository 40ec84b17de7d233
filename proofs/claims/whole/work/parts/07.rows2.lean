/-! fields, arrays, static arrays, texts, switches, answers, calls -/
theorem shE_pF {E : En} {σ : St} {k j : Nat} {v : Int32} (k' : Nat) (c : Sh) (h : k' ≠ k) : shE E (pF σ k j v) k' c = shE E σ k' c := shE_off (σ := σ) (σ' := pF σ k j v) (fun i => by rw [gF_pF, if_neg (fun q => h q.1)]) rfl rfl c
theorem shE_pA {E : En} {σ : St} {k j : Nat} {v : Int32} (k' : Nat) (c : Sh) (h : k' ≠ k) : shE E (pA σ k j v) k' c = shE E σ k' c := shE_off (σ := σ) (σ' := pA σ k j v) (fun i => rfl) (by funext i; rw [gA_pA, if_neg (fun q => h q.1)]) rfl c
theorem shE_pL {E : En} {σ : St} {k j : Nat} {v : Int64} (k' : Nat) (c : Sh) (h : k' ≠ k) : shE E (pL σ k j v) k' c = shE E σ k' c := shE_off (σ := σ) (σ' := pL σ k j v) (fun i => rfl) rfl (by funext i; rw [gL_pL, if_neg (fun q => h q.1)]) c
theorem shE_pC {E : En} {σ : St} {k : Nat} {g : Nat → Int32} (k' : Nat) (c : Sh) (h : k' ≠ k) : shE E (pC σ k g) k' c = shE E σ k' c := shE_off (σ := σ) (σ' := pC σ k g) (fun i => rfl) (by rw [gA_pC, if_neg h]) rfl c
theorem wd_gi {E : En} {σ : St} {SH : SHT} {k t n : Nat} {rows : List Nat} (ht : t < 3) (h : SH.1[k]? = some (.inr (t, n, rows))) : (wd E SH σ)[k]? = some (E.1 k, .inl (E.2.2 t, n, .inl (gA σ k))) := by
  rw [wd_get h]; simp only [shE, shA, if_pos ht]
theorem wd_gl {E : En} {σ : St} {SH : SHT} {k n : Nat} {rows : List Nat} (h : SH.1[k]? = some (.inr (3, n, rows))) : (wd E SH σ)[k]? = some (E.1 k, .inl (E.2.2 3, n, .inr (.inl (gL σ k)))) := by
  rw [wd_get h]; rfl
theorem wd_pA {E : En} {σ : St} {SH : SHT} {k t n i : Nat} {rows : List Nat} {v : Int32} (ht : t < 3) (h : SH.1[k]? = some (.inr (t, n, rows))) : (wd E SH σ).set k (E.1 k, .inl (E.2.2 t, n, .inl (upd (gA σ k) i v))) = wd E SH (pA σ k i v) := by
  rw [← wd_set h (fun j c' hj => shE_pA j c' hj)]
  congr 2
  simp only [shE, shA, if_pos ht]
  congr 4
  funext j
  rw [gA_pA]
  unfold upd
  by_cases hj : j = i <;> simp [hj]
theorem wd_pL {E : En} {σ : St} {SH : SHT} {k n i : Nat} {rows : List Nat} {v : Int64} (h : SH.1[k]? = some (.inr (3, n, rows))) : (wd E SH σ).set k (E.1 k, .inl (E.2.2 3, n, .inr (.inl (vp_updL (gL σ k) i v)))) = wd E SH (pL σ k i v) := by
  rw [← wd_set h (fun j c' hj => shE_pL j c' hj)]
  congr 2
  have e : vp_updL (gL σ k) i v = gL (pL σ k i v) k := by
    funext j
    rw [gL_pL]
    unfold vp_updL
    by_cases hj : j = i <;> simp [hj]
  rw [e]
  rfl
theorem wd_pC {E : En} {σ : St} {SH : SHT} {k t n : Nat} {rows : List Nat} {g : Nat → Int32} (ht : t < 3) (h : SH.1[k]? = some (.inr (t, n, rows))) : (wd E SH σ).set k (E.1 k, .inl (E.2.2 t, n, .inl g)) = wd E SH (pC σ k g) := by
  rw [← wd_set h (fun j c' hj => shE_pC j c' hj)]
  congr 2
  simp only [shE, shA, if_pos ht, gA_pC, if_true]
theorem wd_pF {E : En} {σ : St} {SH : SHT} {k ci j : Nat} {fs : List (Option (Option Nat))} {v : Int32} (h : SH.1[k]? = some (.inl (ci, fs))) (hf : fs[j]? = some none) : (wd E SH σ).set k (E.1 k, .inr (ci, (shV E σ k 0 fs).set j (.int v))) = wd E SH (pF σ k j v) := by
  rw [← wd_set h (fun j c' hj => shE_pF j c' hj)]
  congr 2
  simp only [shE]
  rw [shV_set hf]
theorem zb_n {v : Int32} (h : zb v = true) : narrow .boolean (.int v) = .int v ∧ fits .boolean (.int v) = true := by
  have h : v = 0 ∨ v = 1 := of_decide_eq_true h
  rcases h with rfl | rfl <;> decide +kernel
section VFT
variable {α : Type} {M : MC} {d : Nat} {SH : SHT} {ι : α → Option Value × St} {pc : Nat} {L : List (Nat × Value)} {st : List Value} {σ : St} {o o1 o2 : Option α}
theorem v_getr {idx ci j k r : Nat} {fs : List (Option (Option Nat))} (hd : decode M.2.1 pc = .ok (.getfield idx, 3)) (hG : GF M.1 idx ci j) (hs : SH.1[k]? = some (.inl (ci, fs))) (hf : fs[j]? = some (some (some r))) (kk : VF M d SH ι (pc + 3) L (.ref r :: st) σ o) : VF M d SH ι pc L (.ref k :: st) σ o := by
  intro z hz p l e R s m args below meth c E Q cells slots C hc hs2 F H locs ls hP hS hL
  obtain ⟨C', T, N, g1, g2, g3, g4⟩ := hG
  exact va_get C.1 C.2.1 C.2.2.2.2.1 g2 C.2.2.2.1 C.2.2.2.2.2.2.1.1 hP k (wd_get hs) g1 j g3 (C.2.2.2.2.1 _ g4) (fun _ h => h) (v := .ref (E.1 r)) (by rw [shV_get, hf]; rfl) hd (kk z hz p l e R s m args below meth c E Q cells slots C hc hs2 F H locs ls hP hS hL)
theorem v_geti {idx ci j k : Nat} {fs : List (Option (Option Nat))} (hd : decode M.2.1 pc = .ok (.getfield idx, 3)) (hG : GF M.1 idx ci j) (hs : SH.1[k]? = some (.inl (ci, fs))) (hf : fs[j]? = some none) (kk : VF M d SH ι (pc + 3) L (.int (gF σ k j) :: st) σ o) : VF M d SH ι pc L (.ref k :: st) σ o := by
  intro z hz p l e R s m args below meth c E Q cells slots C hc hs2 F H locs ls hP hS hL
  obtain ⟨C', T, N, g1, g2, g3, g4⟩ := hG
  exact va_get C.1 C.2.1 C.2.2.2.2.1 g2 C.2.2.2.1 C.2.2.2.2.2.2.1.1 hP k (wd_get hs) g1 j g3 (C.2.2.2.2.1 _ g4) (fun _ h => h) (v := .int (gF σ k j)) (by rw [shV_get, hf]; simp) hd (kk z hz p l e R s m args below meth c E Q cells slots C hc hs2 F H locs ls hP hS hL)
theorem v_puti {idx ci j k : Nat} {fs : List (Option (Option Nat))} {ty : FieldType} {v : Int32} (hd : decode M.2.1 pc = .ok (.putfield idx, 3)) (hG : GP M.1 idx ci j ty) (hs : SH.1[k]? = some (.inl (ci, fs))) (hf : fs[j]? = some none) (hn : narrow ty (.int v) = .int v) (hfit : fits ty (.int v) = true) (kk : VF M d SH ι (pc + 3) L st (pF σ k j v) o) : VF M d SH ι pc L (.int v :: .ref k :: st) σ o := by
  intro z hz p l e R s m args below meth c E Q cells slots C hc hs2 F H locs ls hP hS hL
  obtain ⟨C', T, N, ty0, g1, g2, g3, g4, g5, g6, g7, g8⟩ := hG
  exact va_put C.1 C.2.1 C.2.2.2.2.1 g2 ty0 g5 g6 C.2.2.2.1 C.2.2.2.2.2.2.1.1 hP (wd_D C.2.2.2.2.2.1 σ) hS k (wd_get hs) g1 j g3 (C.2.2.2.2.1 _ g4) (fun _ h => h) g7 (v := .int v) g8 hn hfit (by rw [shV_len]; exact (List.getElem?_eq_some_iff.mp hf).1) hd
    (fun H1 locs1 hP1 _ hS1 => kk z hz p l e R s m args below meth c E Q cells slots C hc hs2 F H1 locs1 ls (by rw [← wd_pF hs hf]; exact hP1) hS1 hL)
theorem v_putz {idx ci j k : Nat} {fs : List (Option (Option Nat))} {v : Int32} (hd : decode M.2.1 pc = .ok (.putfield idx, 3)) (hG : GP M.1 idx ci j .boolean) (hs : SH.1[k]? = some (.inl (ci, fs))) (hf : fs[j]? = some none) (kk : VF M d SH ι (pc + 3) L st (pF σ k j v) o) : VF M d SH ι pc L (.int v :: .ref k :: st) σ (gd (zb v) o) :=
  v_gd fun h => v_puti hd hG hs hf (zb_n h).1 (zb_n h).2 kk
theorem v_iald {k n : Nat} {rows : List Nat} {i : Int32} {j : Nat} (hd : decode M.2.1 pc = .ok (.iaload, 1)) (hs : SH.1[k]? = some (.inr (0, n, rows))) (hi : ib i n = true) (hj : ix i = j) (kk : VF M d SH ι (pc + 1) L (.int (gA σ k j) :: st) σ o) : VF M d SH ι pc L (.int i :: .ref k :: st) σ o := by
  subst hj
  intro z hz p l e R s m args below meth c E Q cells slots C hc hs2 F H locs ls hP hS hL
  exact va_iald C.1 C.2.1 C.2.2.2.2.2.2.1.1 hP k 0 (wd_gi (by decide) hs) rfl (ib_in hi) hd (kk z hz p l e R s m args below meth c E Q cells slots C hc hs2 F H locs ls hP hS hL)
theorem v_bald {k n : Nat} {rows : List Nat} {i : Int32} {j : Nat} (hd : decode M.2.1 pc = .ok (.baload, 1)) (hs : SH.1[k]? = some (.inr (1, n, rows))) (hi : ib i n = true) (hj : ix i = j) (kk : VF M d SH ι (pc + 1) L (.int (gA σ k j) :: st) σ o) : VF M d SH ι pc L (.int i :: .ref k :: st) σ o := by
  subst hj
  intro z hz p l e R s m args below meth c E Q cells slots C hc hs2 F H locs ls hP hS hL
  exact va_bald C.1 C.2.1 C.2.2.2.2.2.2.1.1 hP k 1 (wd_gi (by decide) hs) rfl (ib_in hi) hd (kk z hz p l e R s m args below meth c E Q cells slots C hc hs2 F H locs ls hP hS hL)
theorem v_cald {k n : Nat} {rows : List Nat} {i : Int32} {j : Nat} (hd : decode M.2.1 pc = .ok (.caload, 1)) (hs : SH.1[k]? = some (.inr (2, n, rows))) (hi : ib i n = true) (hj : ix i = j) (kk : VF M d SH ι (pc + 1) L (.int (gA σ k j) :: st) σ o) : VF M d SH ι pc L (.int i :: .ref k :: st) σ o := by
  subst hj
  intro z hz p l e R s m args below meth c E Q cells slots C hc hs2 F H locs ls hP hS hL
  exact va_cald C.1 C.2.1 C.2.2.2.2.2.2.1.1 hP k 2 (wd_gi (by decide) hs) rfl (ib_in hi) hd (kk z hz p l e R s m args below meth c E Q cells slots C hc hs2 F H locs ls hP hS hL)
theorem v_lald {k n : Nat} {rows : List Nat} {i : Int32} {j : Nat} (hd : decode M.2.1 pc = .ok (.laload, 1)) (hs : SH.1[k]? = some (.inr (3, n, rows))) (hi : ib i n = true) (hj : ix i = j) (kk : VF M d SH ι (pc + 1) L (.long (gL σ k j) :: st) σ o) : VF M d SH ι pc L (.int i :: .ref k :: st) σ o := by
  subst hj
  intro z hz p l e R s m args below meth c E Q cells slots C hc hs2 F H locs ls hP hS hL
  exact va_lald C.1 C.2.1 C.2.2.2.2.2.2.1.1 hP k 3 (wd_gl hs) rfl (ib_in hi) hd (kk z hz p l e R s m args below meth c E Q cells slots C hc hs2 F H locs ls hP hS hL)
theorem v_aald {k n t : Nat} {rows : List Nat} {i : Int32} {r : Nat} (hd : decode M.2.1 pc = .ok (.aaload, 1)) (ht : t = 4 ∨ t = 5) (hs : SH.1[k]? = some (.inr (t, n, rows))) (hi : ib i n = true) (hr : rows[ix i]? = some r) (kk : VF M d SH ι (pc + 1) L (.ref r :: st) σ o) : VF M d SH ι pc L (.int i :: .ref k :: st) σ o := by
  intro z hz p l e R s m args below meth c E Q cells slots C hc hs2 F H locs ls hP hS hL
  have hK := C.2.2.2.2.2.2.1.1
  have hlt : i.toNatClampNeg < n := Nat.not_le.mp fun q => ib_in hi (Or.inr q)
  have ha : (wd E SH σ)[k]? = some (E.1 k, .inl (E.2.2 t, n, .inr (.inr (.inr (.inr (fun i => (rows[i]?).map E.1)))))) := by
    rw [wd_get hs]
    rcases ht with rfl | rfl <;> rfl
  have hr2 : (rows[i.toNatClampNeg]?).map E.1 = some (E.1 r) := by
    show (rows[ix i]?).map E.1 = _
    rw [hr]; rfl
  have key : ∀ (t0 : Nat) (ty : FieldType), (tyl E)[t0]? = some (E.2.2 t, ty) → ty.isReference = true → W p l e R s m args below meth c H locs cells slots Q (F0 m pc ls (cvs E (.int i :: .ref k :: st))) := fun t0 ty h1 h2 =>
    W.aald (v := .ref (E.1 r)) (ty := ty) C.1 C.2.1 (hP k _ ha) ((hK.2 t0 _ h1).1 n (fun j => va_rf ((rows[j]?).map E.1))) h2 (fun q => by cases q) (by show ¬ (i < 0 ∨ (arrV _ _ _).slots.size ≤ _); rw [arrV_size]; exact ib_in hi) (by show (arrV _ _ _).slots[_]? = _; rw [arrV_read _ _ hlt]; show some (va_rf ((rows[i.toNatClampNeg]?).map E.1)) = _; rw [hr2]; rfl) rfl rfl hd (kk z hz p l e R s m args below meth c E Q cells slots C hc hs2 F H locs ls hP hS hL)
  rcases ht with rfl | rfl
  · exact key 4 (.array .int) rfl rfl
  · exact key 5 (.array .long) rfl rfl
theorem v_iast {k n : Nat} {rows : List Nat} {i x : Int32} {j : Nat} (hd : decode M.2.1 pc = .ok (.iastore, 1)) (hs : SH.1[k]? = some (.inr (0, n, rows))) (hi : ib i n = true) (hj : ix i = j) (kk : VF M d SH ι (pc + 1) L st (pA σ k j x) o) : VF M d SH ι pc L (.int x :: .int i :: .ref k :: st) σ o := by
  subst hj
  intro z hz p l e R s m args below meth c E Q cells slots C hc hs2 F H locs ls hP hS hL
  exact va_iast C.1 C.2.1 C.2.2.2.2.2.2.1.1 hP (wd_D C.2.2.2.2.2.1 σ) hS k 0 (wd_gi (by decide) hs) rfl (ib_in hi) hd (fun H1 locs1 hP1 _ hS1 => kk z hz p l e R s m args below meth c E Q cells slots C hc hs2 F H1 locs1 ls (by rw [← wd_pA (by decide) hs]; exact hP1) hS1 hL)
theorem v_bast {k n : Nat} {rows : List Nat} {i x : Int32} {j : Nat} (hd : decode M.2.1 pc = .ok (.bastore, 1)) (hs : SH.1[k]? = some (.inr (1, n, rows))) (hi : ib i n = true) (hj : ix i = j) (kk : VF M d SH ι (pc + 1) L st (pA σ k j x.toInt8.toInt32) o) : VF M d SH ι pc L (.int x :: .int i :: .ref k :: st) σ o := by
  subst hj
  intro z hz p l e R s m args below meth c E Q cells slots C hc hs2 F H locs ls hP hS hL
  exact va_bast C.1 C.2.1 C.2.2.2.2.2.2.1.1 hP (wd_D C.2.2.2.2.2.1 σ) hS k 1 (wd_gi (by decide) hs) rfl (ib_in hi) hd (fun H1 locs1 hP1 _ hS1 => kk z hz p l e R s m args below meth c E Q cells slots C hc hs2 F H1 locs1 ls (by rw [← wd_pA (by decide) hs]; exact hP1) hS1 hL)
theorem v_last {k n : Nat} {rows : List Nat} {i : Int32} {x : Int64} {j : Nat} (hd : decode M.2.1 pc = .ok (.lastore, 1)) (hs : SH.1[k]? = some (.inr (3, n, rows))) (hi : ib i n = true) (hj : ix i = j) (kk : VF M d SH ι (pc + 1) L st (pL σ k j x) o) : VF M d SH ι pc L (.long x :: .int i :: .ref k :: st) σ o := by
  subst hj
  intro z hz p l e R s m args below meth c E Q cells slots C hc hs2 F H locs ls hP hS hL
  exact va_last C.1 C.2.1 C.2.2.2.2.2.2.1.1 hP (wd_D C.2.2.2.2.2.1 σ) hS k 3 (wd_gl hs) rfl (ib_in hi) hd (fun H1 locs1 hP1 _ hS1 => kk z hz p l e R s m args below meth c E Q cells slots C hc hs2 F H1 locs1 ls (by rw [← wd_pL hs]; exact hP1) hS1 hL)
/-- System.arraycopy of whole int rows -/
theorem v_copy {k0 k1 n n0 n1 idx : Nat} {r0 r1 : List Nat} {nn : Int32} (hd : decode M.2.1 pc = .ok (.invokestatic idx, 3)) (hG : GCopy M.1 idx) (hs0 : SH.1[k0]? = some (.inr (0, n0, r0))) (hs1 : SH.1[k1]? = some (.inr (0, n1, r1))) (hn : nn.toNatClampNeg = n ∧ ¬ nn < 0) (h0 : n ≤ n0) (h1 : n ≤ n1) (hdd : 1 ≤ d)
    (kk : VF M d SH ι (pc + 3) L [] (pC σ k1 (cpN n (gA σ k0) (gA σ k1))) o) : VF M d SH ι pc L [.int nn, .int 0, .ref k1, .int 0, .ref k0] σ o := by
  intro z hz p l e R s m args below meth c E Q cells slots C hc hs2 F H locs ls hP hS hL
  obtain ⟨g1, g2, g3, g4⟩ := hG
  have hts := C.2.2.2.2.1
  have z0 : (0 : Int32).toNatClampNeg = 0 := by decide +kernel
  have e1 : va_cpy (gA σ k0) (gA σ k1) (0 : Int32).toNatClampNeg (0 : Int32).toNatClampNeg nn.toNatClampNeg = cpN n (gA σ k0) (gA σ k1) := by
    rw [z0, hn.1]
    funext j
    simp [va_cpy, cpN]
  refine va_copyi (ty := .int) C.1 C.2.1 (by rw [C.2.2.1]; exact hL.1.symm) C.2.2.2.1 (hts _ g1) (hts _ g2) (hts _ g3) (hts _ g4) C.2.2.2.2.2.2.1.1 hP (wd_D C.2.2.2.2.2.1 σ) hS k0 k1 0 0 (wd_gi (by decide) hs0) (wd_gi (by decide) hs1) rfl rfl rfl (by decide +kernel) (by decide +kernel) hn.2 (by rw [z0, hn.1]; omega) (by rw [z0, hn.1]; omega) (fun i _ => rfl) (Nat.le_trans hdd C.2.2.2.2.2.2.2.1) ?_ hd (fun H1 locs1 hP1 _ hS1 => kk z hz p l e R s m args below meth c E Q cells slots C hc hs2 F H1 locs1 ls (by rw [← wd_pC (by decide) hs1, ← e1]; exact hP1) hS1 hL)
  refine Nat.le_trans ?_ (Nat.le_trans (Nat.mul_le_mul_left 200 hdd) C.2.2.2.2.2.2.2.2)
  exact Nat.le_of_ble_eq_true rfl
theorem v_gets {idx i : Nat} (hd : decode M.2.1 pc = .ok (.getstatic idx, 3)) (hG : GS M.1 idx i) (kk : VF M d SH ι (pc + 3) L (.ref (1000 + i) :: st) σ o) : VF M d SH ι pc L st σ o := by
  intro z hz p l e R s m args below meth c E Q cells slots C hc hs2 F H locs ls hP hS hL
  obtain ⟨hi, hl⟩ := hG
  have hZ := ((C.2.2.2.2.2.2.1).2.1 i hi).1
  rcases hl with hl | ⟨host, hl⟩
  · exact va_gets C.1 C.2.1 hZ hS C.2.2.2.1 (C.2.2.2.2.1 _ hl) (fun _ h => h) hd (kk z hz p l e R s m args below meth c E Q cells slots C hc hs2 F H locs ls hP hS hL)
  · exact va_getsN C.1 C.2.1 hZ hS C.2.2.2.1 (va_Nw.use (NW_tabs hl) (C.2.2.2.2.2.2.1.2.2.2.2.2.2.1 _ hl)) (fun _ h => h) hd (kk z hz p l e R s m args below meth c E Q cells slots C hc hs2 F H locs ls hP hS hL)
theorem v_tald {i k : Nat} {j : Int32} (hd : decode M.2.1 pc = .ok (.iaload, 1)) (hk : k = 1000 + i) (h4 : i < 4) (hi : ib j (tabL i).length = true) {j' : Nat} (hj : ix j = j') (kk : VF M d SH ι (pc + 1) L (.int (stV i j') :: st) σ o) : VF M d SH ι pc L (.int j :: .ref k :: st) σ o := by
  subst hk
  subst hj
  intro z hz p l e R s m args below meth c E Q cells slots C hc hs2 F H locs ls hP hS hL
  exact va_ti C.1 C.2.1 ((C.2.2.2.2.2.2.1).2.1 i h4).2 hS (ib_in hi) rfl hd (kk z hz p l e R s m args below meth c E Q cells slots C hc hs2 F H locs ls hP hS hL)
theorem v_ldc {idx : Nat} {v : Int32} (hd : decode M.2.1 pc = .ok (.ldc idx, 2)) (hG : Cond.constant M.1 idx v ∈ TB) (kk : VF M d SH ι (pc + 2) L (.int v :: st) σ o) : VF M d SH ι pc L st σ o :=
  fun z hz p l e R s m args below meth c E Q cells slots C hc hs F H locs ls hP hS hL => lv_ldc C.1 C.2.1 C.2.2.2.1 (C.2.2.2.2.1 _ hG) hd (kk z hz p l e R s m args below meth c E Q cells slots C hc hs F H locs ls hP hS hL)
theorem v_ldcw {idx : Nat} {v : Int32} (hd : decode M.2.1 pc = .ok (.ldc_w idx, 3)) (hG : Cond.constant M.1 idx v ∈ TB) (kk : VF M d SH ι (pc + 3) L (.int v :: st) σ o) : VF M d SH ι pc L st σ o :=
  fun z hz p l e R s m args below meth c E Q cells slots C hc hs F H locs ls hP hS hL => lv_ldcw C.1 C.2.1 C.2.2.2.1 (C.2.2.2.2.1 _ hG) hd (kk z hz p l e R s m args below meth c E Q cells slots C hc hs F H locs ls hP hS hL)
theorem v_ldc2 {idx : Nat} {v : Int64} (hd : decode M.2.1 pc = .ok (.ldc2_w idx, 3)) (hG : Cond.constantLong M.1 idx v ∈ TB) (kk : VF M d SH ι (pc + 3) L (.long v :: st) σ o) : VF M d SH ι pc L st σ o :=
  fun z hz p l e R s m args below meth c E Q cells slots C hc hs F H locs ls hP hS hL => lv_ldc2 C.1 C.2.1 C.2.2.2.1 (C.2.2.2.2.1 _ hG) hd (kk z hz p l e R s m args below meth c E Q cells slots C hc hs F H locs ls hP hS hL)
theorem v_ldcS {idx i : Nat} (hd : decode M.2.1 pc = .ok (.ldc idx, 2)) (hM : M.1 = "SpringOaths$Tape") (hi : i < 16) (hk : strK i = idx) (kk : VF M d SH ι (pc + 2) L (.ref (2000 + i) :: st) σ o) : VF M d SH ι pc L st σ o := by
  subst hk
  intro z hz p l e R s m args below meth c E Q cells slots C hc hs F H locs ls hP hS hL
  have h := (C.2.2.2.2.2.2.1).2.2.2.2.2.1 i hi
  have ho := C.2.2.2.1
  rw [hM] at ho
  exact va_ldcS C.1 C.2.1 ho h hd (kk z hz p l e R s m args below meth c E Q cells slots C hc hs F H locs ls hP hS hL)
/-- the script -/
theorem v_sld {j : Int32} (hd : decode M.2.1 pc = .ok (.iaload, 1)) (hi : ib j SH.2.1 = true) (kk : VF M d SH ι (pc + 1) L (.int (SH.2.2 (ix j)) :: st) σ o) : VF M d SH ι pc L (.int j :: .ref 5000 :: st) σ o := by
  intro z hz p l e R s m args below meth c E Q cells slots C hc hs2 F H locs ls hP hS hL
  exact va_ti C.1 C.2.1 C.2.2.2.2.2.2.1.2.2.2.2.2.2.2 hS (ib_in hi) rfl hd (kk z hz p l e R s m args below meth c E Q cells slots C hc hs2 F H locs ls hP hS hL)
theorem v_slen (hd : decode M.2.1 pc = .ok (.arraylength, 1)) (kk : VF M d SH ι (pc + 1) L (.int (Int32.ofNat SH.2.1) :: st) σ o) : VF M d SH ι pc L (.ref 5000 :: st) σ o := by
  intro z hz p l e R s m args below meth c E Q cells slots C hc hs2 F H locs ls hP hS hL
  exact va_tlen C.1 C.2.1 C.2.2.2.2.2.2.1.2.2.2.2.2.2.2 hS rfl hd (kk z hz p l e R s m args below meth c E Q cells slots C hc hs2 F H locs ls hP hS hL)
/-! switches: the places by a list of cases -/
def swT : List (Int32 × Nat) → Nat → Int32 → Nat
  | [], dt, _ => dt
  | (v, t) :: r, dt, x => if x = v then t else swT r dt x
def swChk (pc : Nat) (lo : Int) (offs : Array Int) (cs : List (Int32 × Nat)) (dt : Nat) : Bool :=
  (List.range offs.size).all (fun i => decide ((pc : Int) + (offs[i]?).getD 0 = (swT cs dt (Int32.ofInt (lo + i)) : Int))) && cs.all (fun q => decide (lo ≤ q.1.toInt ∧ q.1.toInt < lo + offs.size))
theorem swT_out {cs : List (Int32 × Nat)} {dt : Nat} {x : Int32} (h : ∀ q ∈ cs, q.1 ≠ x) : swT cs dt x = dt := by
  induction cs with
  | nil => rfl
  | cons q r ih =>
    obtain ⟨v, t⟩ := q
    simp only [swT]
    rw [if_neg (fun e => h _ List.mem_cons_self e.symm)]
    exact ih (fun q hq => h q (List.mem_cons_of_mem _ hq))
theorem v_tsw {dflt lo hi : Int} {offs : Array Int} {len : Nat} {x : Int32} {cs : List (Int32 × Nat)} {dt : Nat} (hd : decode M.2.1 pc = .ok (.tableswitch dflt lo hi offs, len)) (hsz : hi + 1 = lo + offs.size) (hdt : (pc : Int) + dflt = (dt : Int)) (hchk : swChk pc lo offs cs dt = true) (kk : VF M d SH ι (swT cs dt x) L st σ o) : VF M d SH ι pc L (.int x :: st) σ o := by
  intro z hz p l e R s m args below meth c E Q cells slots C hc hs F H locs ls hP hS hL
  have k := kk z hz p l e R s m args below meth c E Q cells slots C hc hs F H locs ls hP hS hL
  unfold swChk at hchk
  rw [Bool.and_eq_true] at hchk
  obtain ⟨c1, c2⟩ := hchk
  by_cases hin : x.toInt < lo ∨ hi < x.toInt
  · refine lv_tableOut C.1 C.2.1 hd hin hdt ?_
    rw [swT_out (fun q hq e => ?_)] at k
    · exact k
    · have := of_decide_eq_true (List.all_eq_true.mp c2 q hq)
      rw [e] at this
      omega
  · have h1 : ¬ x.toInt < lo := fun q => hin (Or.inl q)
    have h2 : ¬ hi < x.toInt := fun q => hin (Or.inr q)
    have hlt : (x.toInt - lo).toNat < offs.size := by omega
    have hg : offs[(x.toInt - lo).toNat]? = some offs[(x.toInt - lo).toNat] := Array.getElem?_eq_getElem hlt
    have hx : Int32.ofInt (lo + ((x.toInt - lo).toNat : Nat)) = x := by
      rw [show lo + ((x.toInt - lo).toNat : Int) = x.toInt by omega]
      exact Int32.ofInt_toInt x
    have e1 := of_decide_eq_true (List.all_eq_true.mp c1 _ (List.mem_range.mpr hlt))
    rw [hg, hx] at e1
    exact lv_tableIn C.1 C.2.1 hd h1 h2 hg e1 k
theorem v_lsw {dflt : Int} {ps : Array (Int × Int)} {len : Nat} {x : Int32} {cs : List (Int32 × Nat)} {dt : Nat} (hd : decode M.2.1 pc = .ok (.lookupswitch dflt ps, len)) (hp : (ps.toList.zip (ps.toList.drop 1)).all (fun (a, next) => a.1 < next.1) = true) (hdt : (pc : Int) + dflt = (dt : Int)) (hc : ps.toList.map (fun q => (Int32.ofInt q.1, ((pc : Int) + q.2).toNat)) = cs) (hc2 : ps.toList.all (fun q => decide ((Int32.ofInt q.1).toInt = q.1 ∧ 0 ≤ (pc : Int) + q.2)) = true) (kk : VF M d SH ι (swT cs dt x) L st σ o) : VF M d SH ι pc L (.int x :: st) σ o := by
  intro z hz p l e R s m args below meth c E Q cells slots C hcl hs F H locs ls hP hS hL
  have k := kk z hz p l e R s m args below meth c E Q cells slots C hcl hs F H locs ls hP hS hL
  refine lv_lookup C.1 C.2.1 hd hp rfl ?_ k
  subst hc
  generalize ps.toList = l0 at hc2
  induction l0 with
  | nil => exact hdt
  | cons q r ih =>
    obtain ⟨a, b⟩ := q
    have q1 := of_decide_eq_true (List.all_eq_true.mp hc2 (a, b) List.mem_cons_self)
    have q2 := ih (List.all_eq_true.mpr fun y hy => List.all_eq_true.mp hc2 y (List.mem_cons_of_mem _ hy))
    simp only [List.map_cons, swT]
    rw [Op.lookupswitch.offset_cons]
    by_cases hx : x = Int32.ofInt a
    · rw [if_pos (by rw [hx]; exact q1.1.symm), if_pos hx]
      have := q1.2
      simp only at this ⊢
      omega
    · rw [if_neg (fun h => hx (Int32.toInt_inj.mp (by rw [q1.1]; exact h.symm))), if_neg hx]
      exact q2
theorem v_swc {v : Int32} {t dt : Nat} {r : List (Int32 × Nat)} {x : Int32} (h1 : x = v → VF M d SH ι t L st σ o1) (h2 : ¬ x = v → VF M d SH ι (swT r dt x) L st σ o2) : VF M d SH ι (swT ((v, t) :: r) dt x) L st σ (if x = v then o1 else o2) := by
  by_cases h : x = v
  · simp only [swT, if_pos h]; exact h1 h
  · simp only [swT, if_neg h]; exact h2 h
theorem v_swn {dt : Nat} {x : Int32} (h : VF M d SH ι dt L st σ o) : VF M d SH ι (swT [] dt x) L st σ o := h
theorem v_ite {c : Prop} [Decidable c] (h : ¬ c) (k : VF M d SH ι pc L st σ (if c then none else o)) : VF M d SH ι pc L st σ o := by rwa [if_neg h] at k
theorem v_itt {c : Prop} [Decidable c] (h : c) (k : VF M d SH ι pc L st σ (if c then o else none)) : VF M d SH ι pc L st σ o := by rwa [if_pos h] at k
/-! String constants -/
theorem v_strval {i k idx : Nat} (hd : decode M.2.1 pc = .ok (.getfield idx, 3)) (hl : Cond.fieldLink M.1 idx "java/lang/String" "value" "[B" ∈ TB) (hi : i < 16) (hk : k = 2000 + i) (kk : VF M d SH ι (pc + 3) L (.ref (3000 + i) :: st) σ o) : VF M d SH ι pc L (.ref k :: st) σ o := by
  subst hk
  intro z hz p l e R s m args below meth c E Q cells slots C hc hs2 F H locs ls hP hS hL
  exact vk_getf C.1 C.2.1 (((C.2.2.2.2.2.2.1).2.2.2.2.1).1 i hi).2.2.1 hS C.2.2.2.1 (C.2.2.2.2.1 _ hl) (fun _ h => h) hd (kk z hz p l e R s m args below meth c E Q cells slots C hc hs2 F H locs ls hP hS hL)
theorem v_strcod {i k idx : Nat} (hd : decode M.2.1 pc = .ok (.getfield idx, 3)) (hl : Cond.fieldLink M.1 idx "java/lang/String" "coder" "B" ∈ TB) (hi : i < 16) (hk : k = 2000 + i) (kk : VF M d SH ι (pc + 3) L (.int 0 :: st) σ o) : VF M d SH ι pc L (.ref k :: st) σ o := by
  subst hk
  intro z hz p l e R s m args below meth c E Q cells slots C hc hs2 F H locs ls hP hS hL
  exact vk_getf C.1 C.2.1 (((C.2.2.2.2.2.2.1).2.2.2.2.1).1 i hi).2.1 hS C.2.2.2.1 (C.2.2.2.2.1 _ hl) (fun _ h => h) hd (kk z hz p l e R s m args below meth c E Q cells slots C hc hs2 F H locs ls hP hS hL)
theorem v_strbal {i : Nat} {j : Int32} (hd : decode M.2.1 pc = .ok (.baload, 1)) (hi : i < 16) (hj : ib j (strN.getD i 0) = true) (kk : VF M d SH ι (pc + 1) L (.int ((strB.getD i []).getD (ix j) 0) :: st) σ o) : VF M d SH ι pc L (.int j :: .ref (3000 + i) :: st) σ o := by
  intro z hz p l e R s m args below meth c E Q cells slots C hc hs2 F H locs ls hP hS hL
  exact va_tb C.1 C.2.1 (((C.2.2.2.2.2.2.1).2.2.2.2.1).1 i hi).2.2.2 hS (ib_in hj) rfl hd (kk z hz p l e R s m args below meth c E Q cells slots C hc hs2 F H locs ls hP hS hL)
theorem v_strlen {i : Nat} (hd : decode M.2.1 pc = .ok (.arraylength, 1)) (hi : i < 16) (kk : VF M d SH ι (pc + 1) L (.int (Int32.ofNat (strN.getD i 0)) :: st) σ o) : VF M d SH ι pc L (.ref (3000 + i) :: st) σ o := by
  intro z hz p l e R s m args below meth c E Q cells slots C hc hs2 F H locs ls hP hS hL
  exact va_tlen C.1 C.2.1 (((C.2.2.2.2.2.2.1).2.2.2.2.1).1 i hi).2.2.2 hS rfl hd (kk z hz p l e R s m args below meth c E Q cells slots C hc hs2 F H locs ls hP hS hL)
theorem v_compact {idx : Nat} (hd : decode M.2.1 pc = .ok (.getstatic idx, 3)) (hl : Cond.fieldLink M.1 idx "java/lang/String" "COMPACT_STRINGS" "Z" ∈ TB) (kk : VF M d SH ι (pc + 3) L (.int 1 :: st) σ o) : VF M d SH ι pc L st σ o := by
  intro z hz p l e R s m args below meth c E Q cells slots C hc hs2 F H locs ls hP hS hL
  exact va_gets C.1 C.2.1 (C.2.2.2.2.2.2.1).2.2.1 hS C.2.2.2.1 (C.2.2.2.2.1 _ hl) (fun _ h => h) hd (kk z hz p l e R s m args below meth c E Q cells slots C hc hs2 F H locs ls hP hS hL)
theorem v_getq {idx : Nat} (hd : decode M.2.1 pc = .ok (.getstatic idx, 3)) (hl : Cond.fieldLink M.1 idx "jdk/internal/util/Preconditions" "SIOOBE_FORMATTER" "Ljava/util/function/BiFunction;" ∈ TB) (k1 : VF M d SH ι (pc + 3) L (.null :: st) σ o) (k2 : VF M d SH ι (pc + 3) L (.ref 4000 :: st) σ o) : VF M d SH ι pc L st σ o := by
  intro z hz p l e R s m args below meth c E Q cells slots C hc hs2 F H locs ls hP hS hL
  rcases (C.2.2.2.2.2.2.1).2.2.2.1 with h | h
  · exact va_gets C.1 C.2.1 h hS C.2.2.2.1 (C.2.2.2.2.1 _ hl) (fun _ h => h) hd (k1 z hz p l e R s m args below meth c E Q cells slots C hc hs2 F H locs ls hP hS hL)
  · exact va_gets C.1 C.2.1 h hS C.2.2.2.1 (C.2.2.2.2.1 _ hl) (fun _ h => h) hd (k2 z hz p l e R s m args below meth c E Q cells slots C hc hs2 F H locs ls hP hS hL)
/-! answers -/
theorem v_ret {q : α} {v : Int32} {ty : FieldType} (hd : decode M.2.1 pc = .ok (.ireturn, 1)) (hq : ι q = (some (.int v), σ)) (hr : M.2.2.2 = some ty) (hn : narrow ty (.int v) = .int v) : VF M d SH ι pc L [.int v] σ (some q) := by
  intro z hz p l e R s m args below meth c E Q cells slots C hc hs F H locs ls hP hS hL
  cases hz
  rw [hq] at F
  exact F pc ls H locs ⟨hd, ty, hr, hn⟩ hP hS
theorem v_retz {q : α} {v : Int32} (hd : decode M.2.1 pc = .ok (.ireturn, 1)) (hq : ι q = (some (.int v), σ)) (hr : M.2.2.2 = some .boolean) : VF M d SH ι pc L [.int v] σ (gd (zb v) (some q)) := v_gd fun h => v_ret hd hq hr (zb_n h).1
theorem v_lret {q : α} {v : Int64} (hd : decode M.2.1 pc = .ok (.lreturn, 1)) (hq : ι q = (some (.long v), σ)) (hr : M.2.2.2 = some .long) : VF M d SH ι pc L [.long v] σ (some q) := by
  intro z hz p l e R s m args below meth c E Q cells slots C hc hs F H locs ls hP hS hL
  cases hz
  rw [hq] at F
  exact F pc ls H locs ⟨hd, hr⟩ hP hS
theorem v_aret {q : α} {v : Nat} {n : String} (hd : decode M.2.1 pc = .ok (.areturn, 1)) (hq : ι q = (some (.ref v), σ)) (hr : M.2.2.2 = some (.object n)) : VF M d SH ι pc L [.ref v] σ (some q) := by
  intro z hz p l e R s m args below meth c E Q cells slots C hc hs F H locs ls hP hS hL
  cases hz
  rw [hq] at F
  exact F pc ls H locs ⟨hd, n, hr⟩ hP hS
theorem v_vret {q : α} (hd : decode M.2.1 pc = .ok (.return_, 1)) (hq : ι q = (none, σ)) (hr : M.2.2.2 = none) : VF M d SH ι pc L [] σ (some q) := by
  intro z hz p l e R s m args below meth c E Q cells slots C hc hs F H locs ls hP hS hL
  cases hz
  rw [hq] at F
  exact F pc ls H locs ⟨hd, hr⟩ hP hS
/-- joins and loops: what goes on gets a name -/
theorem v_pick {L' : List (Nat × Value)} (ks : List Nat) (hl : lv_pick L ks = L') (k : VF M d SH ι pc L' st σ o) : VF M d SH ι pc L st σ o :=
  v_sub (fun q hq => by
    rw [← hl] at hq
    obtain ⟨i, -, hi⟩ := List.mem_filterMap.mp hq
    exact List.mem_of_getElem? hi) k
theorem ib_lt {i : Int32} {n : Nat} (h : ib i n = true) : ix i < n := Nat.not_le.mp fun q => ib_in h (Or.inr q)
theorem rng_get {n q i : Nat} (h : i < n) : ((List.range n).map (fun i => q + i))[i]? = some (q + i) := by simp [h]
theorem v_bnK {κ : Type} {f : κ → Option α} {a : κ} (P : κ → Prop) (hb : ∀ K, P K → VF M d SH ι pc L st σ (f K)) (ha : P a) : VF M d SH ι pc L st σ (bn a f) := hb a ha
end VFT
