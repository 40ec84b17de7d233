/-! the rows of a growing walk -/
section VGR
variable {M : MC} {d : Nat} {X : Nat × (Nat → Int32)} {ini : Prop} {S1 : List Sh} {σ1 : St} {vr : Option Value} {rc rs pc : Nat} {L : List (Nat × Value)} {st : List Value} {S S' : List Sh} {σ σ' : St}
theorem g_aload_n {k0 : Fin 4} {i : Nat} {x : Nat} (hd : decode M.2.1 pc = .ok (.aload_n k0, 1)) (hi : (k0 : Nat) = i) (hx : lkp L i = some (.ref x)) (k : VG M d X ini S1 σ1 vr rc rs (pc + 1) L (.ref x :: st) S σ) : VG M d X ini S1 σ1 vr rc rs pc L st S σ :=
  fun p l e R s m args below meth c E h0 Q cells slots C hc hs hn F H locs ls G hL => lv_aload_n C.1 C.2.1 hd hi (lkp_at hL hx) (k p l e R s m args below meth c E h0 Q cells slots C hc hs hn F H locs ls G hL)
theorem g_iconst {n : Int} {v : Int32} (hd : decode M.2.1 pc = .ok (.iconst n, 1)) (hv : Int32.ofInt n = v) (k : VG M d X ini S1 σ1 vr rc rs (pc + 1) L (.int v :: st) S σ) : VG M d X ini S1 σ1 vr rc rs pc L st S σ :=
  fun p l e R s m args below meth c E h0 Q cells slots C hc hs hn F H locs ls G hL => lv_iconst C.1 C.2.1 hd hv (k p l e R s m args below meth c E h0 Q cells slots C hc hs hn F H locs ls G hL)
theorem g_bipush {n : Int} {v : Int32} (hd : decode M.2.1 pc = .ok (.bipush n, 2)) (hv : (Int8.ofInt n).toInt32 = v) (k : VG M d X ini S1 σ1 vr rc rs (pc + 2) L (.int v :: st) S σ) : VG M d X ini S1 σ1 vr rc rs pc L st S σ :=
  fun p l e R s m args below meth c E h0 Q cells slots C hc hs hn F H locs ls G hL => lv_bipush C.1 C.2.1 hd hv (k p l e R s m args below meth c E h0 Q cells slots C hc hs hn F H locs ls G hL)
theorem g_sipush {n : Int} {v : Int32} (hd : decode M.2.1 pc = .ok (.sipush n, 3)) (hv : (Int16.ofInt n).toInt32 = v) (k : VG M d X ini S1 σ1 vr rc rs (pc + 3) L (.int v :: st) S σ) : VG M d X ini S1 σ1 vr rc rs pc L st S σ :=
  fun p l e R s m args below meth c E h0 Q cells slots C hc hs hn F H locs ls G hL => lv_sipush C.1 C.2.1 hd hv (k p l e R s m args below meth c E h0 Q cells slots C hc hs hn F H locs ls G hL)
theorem g_dup {v : Value} (hd : decode M.2.1 pc = .ok (.dup, 1)) (hv : v.category = 1) (k : VG M d X ini S1 σ1 vr rc rs (pc + 1) L (v :: v :: st) S σ) : VG M d X ini S1 σ1 vr rc rs pc L (v :: st) S σ :=
  fun p l e R s m args below meth c E h0 Q cells slots C hc hs hn F H locs ls G hL => lv_dup C.1 C.2.1 hd ((cv_cat E v).trans hv) (k p l e R s m args below meth c E h0 Q cells slots C hc hs hn F H locs ls G hL)
theorem g_astore_n {k0 : Fin 4} {i : Nat} {x : Nat} {L' : List (Nat × Value)} (hd : decode M.2.1 pc = .ok (.astore_n k0, 1)) (hi : (k0 : Nat) = i) (hn : i < M.2.2.1) (hl : lst1 L i (.ref x) = L') (k : VG M d X ini S1 σ1 vr rc rs (pc + 1) L' st S σ) : VG M d X ini S1 σ1 vr rc rs pc L (.ref x :: st) S σ :=
  fun p l e R s m args below meth c E h0 Q cells slots C hc hs hn2 F H locs ls G hL => lv_astore_n C.1 C.2.1 hd hi hL hn ((lst1_cv E L i (.ref x)).trans (by rw [hl])) (fun ls' hL' => k p l e R s m args below meth c E h0 Q cells slots C hc hs hn2 F H locs ls' G hL')
theorem g_castore {k n : Nat} {rows : List Nat} {i x v : Int32} {j : Nat} (hd : decode M.2.1 pc = .ok (.castore, 1)) (hs : S[k]? = some (.inr (2, n, rows))) (hi : ib i n = true) (hj : ix i = j) (hv : vp_nar .char x = v) (hσ : pA σ k j v = σ') (kk : VG M d X ini S1 σ1 vr rc rs (pc + 1) L st S σ') : VG M d X ini S1 σ1 vr rc rs pc L (.int x :: .int i :: .ref k :: st) S σ := by
  subst hj
  subst hσ
  subst hv
  intro p l e R s m args below meth c E h0 Q cells slots C hc hs2 hn F H locs ls G hL
  have hs : (S, X).1[k]? = some (.inr (2, n, rows)) := hs
  exact va_cast C.1 C.2.1 C.2.2.2.2.2.2.1.1 G.1 (wd_D (EOK_h C.2.2.2.2.2.1 G.2.2) σ) G.2.1 k 2 (wd_gi (by decide) hs) rfl (ib_in hi) hd (fun H1 locs1 hP1 _ hS1 => kk p l e R s m args below meth c E h0 Q cells slots C hc hs2 hn F H1 locs1 ls ⟨by rw [← wd_pA (by decide) hs]; exact hP1, hS1, G.2.2⟩ hL)
/-- the rest, in a world that stays -/
theorem g_enter {α : Type} {ι : α → Option Value × St} {o : Option α} {z : α} (h : VF M d (S, X) ι pc L st σ o) (hz : o = some z) : VG M d X ini S (ι z).2 (ι z).1 0 0 pc L st S σ :=
  fun p l e R s m args below meth c E h0 Q cells slots C hc hs hn F H locs ls G hL => h z hz p l e R s m args below meth c E Q cells slots (C.x G.2.2) hc hs (fun pc ls H locs r hP hS => F pc ls H locs r ⟨hP, hS, G.2.2⟩) H locs ls G.1 G.2.1 hL
theorem g_retV (hd : decode M.2.1 pc = .ok (.return_, 1)) (hr : M.2.2.2 = none) : VG M d X ini S σ none 0 0 pc L [] S σ :=
  fun p l e R s m args below meth c E h0 Q cells slots C hc hs hn F H locs ls G hL => F pc ls H locs ⟨hd, hr⟩ G
theorem g_oinit {idx k : Nat} (hd : decode M.2.1 pc = .ok (.invokespecial idx, 3)) (hG : GO M.1 idx) (hst : (st.map fun v => v.category).sum ≤ 8) (hdd : 1 ≤ d) (kk : VG M d X ini S1 σ1 vr rc rs (pc + 3) L st S σ) : VG M d X ini S1 σ1 vr rc rs pc L (.ref k :: st) S σ := by
  intro p l e R s m args below meth c E h0 Q cells slots C hc hs hn F H locs ls G hL
  have h9 : d ≤ R.frames := C.2.2.2.2.2.2.2.2.1
  have h10 : 200 * d ≤ R.locals := C.2.2.2.2.2.2.2.2.2.1
  refine W.objInit C.1 C.2.1 C.2.2.2.1 (C.2.2.2.2.1 _ hG.1) (C.2.2.2.2.1 _ hG.2.1) (C.2.2.2.2.1 _ hG.2.2) rfl (hL.1.trans C.2.2.1.symm) (a := E.1 k) (rest := cvs E st) rfl hd (by omega) ?_ (kk p l e R s m args below meth c E h0 Q cells slots C hc hs hn F H locs ls G hL)
  have h8 : ((cvs E st).map fun v => v.category).sum ≤ 8 := by
    have : ((cvs E st).map fun v => v.category) = st.map fun v => v.category := by
      unfold cvs
      rw [List.map_map]
      exact List.map_congr_left (fun v _ => cv_cat E v)
    rw [this]; exact hst
  have := lv_room (m := m) (pc := pc) (ls := ls) (rest := cvs E (.ref k :: st)) h8
  omega
theorem zr_off {k n : Nat} : ∀ a, a < k → (∀ j, gF (zr σ k n) a j = gF σ a j) ∧ gA (zr σ k n) a = gA σ a ∧ gL (zr σ k n) a = gL σ a := fun a h => ⟨fun j => by rw [gF_zr, if_neg (by omega)], by funext j; rw [gA_zr, if_neg (by omega)], by funext j; rw [gL_zr, if_neg (by omega)]⟩
theorem g_new {idx ci N q : Nat} {fs : List (Option (Option Nat))} (hd : decode M.2.1 pc = .ok (.new idx, 3)) (hG : GN M.1 idx ci N fs) (hq : S.length = q) (hS : S ++ [.inl (ci, fs)] = S') (hσ : zr σ q 1 = σ') (hl : q + 1 ≤ 900)
    (kk : VG M d X ini S1 σ1 vr rc rs (pc + 3) L (.ref q :: st) S' σ') : VG M d X ini S1 σ1 vr (rc + 1) (rs + N) pc L st S σ := by
  subst hq
  subst hS
  subst hσ
  obtain ⟨C', T', ty, g1, g2, g3, g4, g5, g6, g7⟩ := hG
  intro p l e R s m args below meth c E h0 Q cells slots C hc hs hn F H locs ls G hL T hT Xs
  have hE := C.2.2.2.2.2.1
  have hts := C.2.2.2.2.1
  have hup := Xs.heapSize
  rw [hT] at hup
  have hlo := G.lo hE C.2.2.2.2.2.2.2.1
  have hz : H.size = h0 + S.length := by omega
  have hz' : H.size = E.1 S.length := by rw [hE _ (by omega)]; exact hz
  have hKn := C.2.2.2.2.2.2.1.1.1 ci _ g1
  suffices hw : W p l e R s m args below meth c H locs cells slots Q (F0 m pc ls (cvs E st)) from hw T hT Xs
  refine W.newcK C.1 C.2.1 C.2.2.2.1 (hts _ g4) (hts _ g5) (hts _ g6) rfl hd (by omega) (by omega) hKn.2.1 hz' (fun H1 kC hkC e1 z1 o1 => ?_)
  refine kk p l e R s m args below meth c E h0 Q (cells + 1) (slots + N) C (by omega) (by omega) (by rw [List.length_append, List.length_singleton]; omega) ?_ H1 locs ls (G.push hE hz [_] (by simpa using hl) (by rw [z1, hz']; rfl) (fun q hq => o1 q (by omega)) (zr_off) (fun i c0 hi => ?_)) hL
  · rw [show cells + 1 + rc = cells + (rc + 1) by omega, show slots + N + rs = slots + (rs + N) by omega]
    exact F
  · have hi0 : i < 1 := (List.getElem?_eq_some_iff.mp hi).1
    have hi1 : i = 0 := by omega
    subst hi1
    cases hi
    exact ⟨_, g1, (u_born ty hts g2 hKn hkC e1 g3).to (fun j hj => dvOk_v (g7 j hj) (fun j' => by rw [gF_zr, if_pos (by omega)]))⟩
theorem g_newa {at' : ArrayType} {t N q : Nat} {n : Int32} (hd : decode M.2.1 pc = .ok (.newarray at', 2)) (ha : Cond.arrayClass (newarray.typeOf at') ∈ TB) (ht : ∀ E : En, (tyl E)[t]? = some (E.2.2 t, newarray.typeOf at')) (hv : (t < 3 ∧ defaultValue (newarray.typeOf at') = .int 0) ∨ (t = 3 ∧ defaultValue (newarray.typeOf at') = .long 0))
    (hn0 : ¬ n < 0) (hN : n.toNatClampNeg = N) (hb : N * componentBytes (newarray.typeOf at') ≤ 536870912) (hq : S.length = q) (hS : S ++ [.inr (t, N, [])] = S') (hσ : zr σ q 1 = σ') (hl : q + 1 ≤ 900)
    (kk : VG M d X ini S1 σ1 vr rc rs (pc + 2) L (.ref q :: st) S' σ') : VG M d X ini S1 σ1 vr (rc + 1) (rs + N) pc L (.int n :: st) S σ := by
  subst hq
  subst hS
  subst hσ
  intro p l e R s m args below meth c E h0 Q cells slots C hc hs hn F H locs ls G hL T hT Xs
  have hE := C.2.2.2.2.2.1
  have hts := C.2.2.2.2.1
  have hup := Xs.heapSize
  rw [hT] at hup
  have hlo := G.lo hE C.2.2.2.2.2.2.2.1
  have hz : H.size = h0 + S.length := by omega
  have hz' : H.size = E.1 S.length := by rw [hE _ (by omega)]; exact hz
  suffices hw : W p l e R s m args below meth c H locs cells slots Q (F0 m pc ls (cvs E (.int n :: st))) from hw T hT Xs
  refine va_newaK C.1 C.2.1 (hts _ ha) rfl hd rfl hn0 hN hb (by omega) (by omega) hz' (fun H1 cA e1 z1 o1 _ hNm => ?_)
  have hcA : cA = E.2.2 t := by
    have h9 := (C.2.2.2.2.2.2.1.1.2 t _ (ht E)).2
    have h8 : s.vm.findClass ("[" ++ (newarray.typeOf at').toString) = some (E.2.2 t) := by cases at' <;> exact h9
    exact Option.some.inj (hNm.symm.trans h8)
  refine kk p l e R s m args below meth c E h0 Q (cells + 1) (slots + N) C (by omega) (by omega) (by rw [List.length_append, List.length_singleton]; omega) ?_ H1 locs ls (G.push hE hz [_] (by simpa using hl) (by rw [z1, hz']; rfl) (fun q hq => o1 q (by omega)) (zr_off) (fun i c0 hi => ?_)) hL
  · rw [show cells + 1 + rc = cells + (rc + 1) by omega, show slots + N + rs = slots + (rs + N) by omega]
    exact F
  · have hi0 : i < 1 := (List.getElem?_eq_some_iff.mp hi).1
    have hi1 : i = 0 := by omega
    subst hi1
    cases hi
    show H1[E.1 (S.length + 0)]? = some (vp_cell (E.2.2 t) (N, shA E (zr σ S.length 1) (S.length + 0) [] t))
    rw [Nat.add_zero, e1, hcA]
    rcases hv with ⟨h1, h2⟩ | ⟨h1, h2⟩
    · have : shA E (zr σ S.length 1) S.length [] t = .inl (fun _ => 0) := by
        unfold shA
        rw [if_pos h1]
        congr 1
        funext j
        rw [gA_zr, if_pos (by omega)]
      rw [this, h2]
      rfl
    · have : shA E (zr σ S.length 1) S.length [] t = .inr (.inl (fun _ => 0)) := by
        unfold shA
        rw [if_neg (by omega), if_pos h1]
        congr 2
        funext j
        rw [gL_zr, if_pos (by omega)]
      rw [this, h2]
      rfl
theorem shV_setR {E : En} {k j r : Nat} {fs : List (Option (Option Nat))} (hf : fs[j]? = some (some none)) : (shV E σ k 0 fs).set j (.ref (E.1 r)) = shV E σ k 0 (fs.set j (some (some r))) := by
  apply List.ext_getElem?
  intro i
  have hj := (List.getElem?_eq_some_iff.mp hf).1
  by_cases hi : i = j
  · subst hi
    rw [List.getElem?_set_self (by rw [shV_len]; exact hj), shV_get, List.getElem?_set_self hj]
    rfl
  · rw [List.getElem?_set_ne (Ne.symm hi), shV_get, shV_get, List.getElem?_set_ne (Ne.symm hi)]
theorem wd_setS {E : En} {k ci : Nat} {fs : List (Option (Option Nat))} {v : List Value} (hk : k < S.length) (h : shV E σ k 0 fs = v) : (wd E (S, X) σ).set k (E.1 k, .inr (ci, v)) = wd E (S.set k (.inl (ci, fs)), X) σ := by
  apply List.ext_getElem?
  intro i
  by_cases hi : i = k
  · subst hi
    rw [List.getElem?_set_self (by rw [wd_len]; exact hk), wd_get (c := .inl (ci, fs)) (by show (S.set i _)[i]? = _; rw [List.getElem?_set_self hk])]
    show _ = some (E.1 i, Sum.inr (ci, shV E σ i 0 fs))
    rw [h]
  · rw [List.getElem?_set_ne (Ne.symm hi)]
    unfold wd
    rw [wdF_get, wdF_get]
    show _ = Option.map _ (S.set k _)[i]?
    rw [List.getElem?_set_ne (Ne.symm hi)]
theorem g_putF {idx ci j k r : Nat} {fs : List (Option (Option Nat))} {ty : FieldType} (hi : ini) (hd : decode M.2.1 pc = .ok (.putfield idx, 3)) (hG : GQ M.1 idx ci j ty) (hs : S[k]? = some (.inl (ci, fs))) (hf : fs[j]? = some (some none)) (hS : S.set k (.inl (ci, fs.set j (some (some r)))) = S')
    (kk : VG M d X ini S1 σ1 vr rc rs (pc + 3) L st S' σ) : VG M d X ini S1 σ1 vr rc rs pc L (.ref r :: .ref k :: st) S σ := by
  subst hS
  intro p l e R s m args below meth c E h0 Q cells slots C hc hs2 hn F H locs ls G hL
  have hk := (List.getElem?_eq_some_iff.mp hs).1
  have hs : (S, X).1[k]? = some (.inl (ci, fs)) := hs
  obtain ⟨C', T, N, ty0, g1, g2, g3, g4, g5, g6, g7, g8, g9, g10⟩ := hG
  have hb : narrow ty (.ref (E.1 r)) = .ref (E.1 r) ∧ fits ty (.ref (E.1 r)) = true := by rcases g10 with ⟨n, rfl⟩ | ⟨n, rfl⟩ <;> exact ⟨rfl, rfl⟩
  have hlen : (S.set k (.inl (ci, fs.set j (some (some r))))).length = S.length := List.length_set
  refine va_putF C.1 C.2.1 C.2.2.2.2.1 g2 ty0 g5 g6 C.2.2.2.1 C.2.2.2.2.2.2.1.1 G.1 (wd_D (EOK_h C.2.2.2.2.2.1 G.2.2) σ) G.2.1 k (wd_get hs) g1 j g3 (C.2.2.2.2.1 _ g4) (fun _ h => h) g7 (C.2.2.2.2.2.2.2.2.2.2.1 hi) g8 (v := .ref (E.1 r)) g9 hb.1 hb.2 (by rw [shV_len]; exact (List.getElem?_eq_some_iff.mp hf).1) hd
    (fun H1 locs1 hP1 _ hS1 => kk p l e R s m args below meth c E h0 Q cells slots C hc hs2 (by rw [hlen]; exact hn) F H1 locs1 ls ⟨?_, ?_, by rw [hlen]; exact G.2.2⟩ hL)
  · rw [← wd_setS (v := (shV E σ k 0 fs).set j (.ref (E.1 r))) hk (shV_setR hf).symm]
    exact hP1
  · have : Aw E (S.set k (.inl (ci, fs.set j (some (some r)))), X) = Aw E (S, X) := by
      funext q
      show (∃ i, i < (S.set k _).length ∧ _) = ∃ i, i < S.length ∧ _
      rw [hlen]
    rw [this]
    exact hS1
end VGR
