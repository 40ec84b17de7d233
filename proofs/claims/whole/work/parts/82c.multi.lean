/-! a row of arrays comes; a constructor is called -/
theorem outer_step (c : ClassId) (N h0 : Nat) : ∀ i : Nat, Jvm.Free.Multi.outerC c N h0 i = arrV c N (fun j => va_rf (if j < i then some (h0 + 1 + j) else none))
  | 0 => by
    show ({ cls := c, slots := Array.replicate N .null, vm := .none } : Cell) = _
    rw [arrV_new]
    congr 1
  | i + 1 => by
    show (Jvm.Free.Multi.outerC c N h0 i).setSlot i (.ref (h0 + 1 + i)) = _
    rw [outer_step c N h0 i, arrV_store]
    congr 1
    funext j
    unfold updV
    by_cases e : j = i
    · subst e
      rw [if_pos rfl, if_pos (Nat.lt_succ_self j)]
      rfl
    · rw [if_neg e]
      dsimp only
      by_cases h : j < i
      · rw [if_pos h, if_pos (Nat.lt_succ_of_lt h)]
      · rw [if_neg h, if_neg (by omega)]
theorem outer_arr (c : ClassId) (N h0 : Nat) (f : Nat → Option Nat) (hf : ∀ j, j < N → f j = some (h0 + 1 + j)) : Jvm.Free.Multi.outerC c N h0 N = arrV c N (fun j => va_rf (f j)) := by
  rw [outer_step]
  unfold arrV
  congr 2
  funext j
  dsimp only
  rw [if_pos j.2, hf j.1 j.2]
section VGM2
variable {M : MC} {d : Nat} {X : Nat × (Nat → Int32)} {ini : Prop} {S1 : List Sh} {σ1 : St} {vr : Option Value} {rc rs pc : Nat} {L : List (Nat × Value)} {st : List Value} {S S' : List Sh} {σ σ' : St}
theorem g_multi {idx t it N K q : Nat} {ty : FieldType} {n k : Int32} (hd : decode M.2.1 pc = .ok (.multianewarray idx 2, 4)) (hcl : Cond.classLink M.1 idx ("[" ++ (FieldType.array ty).toString) ∈ TB) (har : Cond.arrayClass ty ∈ TB)
    (ht : (ty = .int ∧ t = 4 ∧ it = 0) ∨ (ty = .long ∧ t = 5 ∧ it = 3)) (hn0 : ¬ n < 0) (hk0 : ¬ k < 0) (hN : n.toNatClampNeg = N) (hK : k.toNatClampNeg = K) (hNK : N ≤ 900 ∧ K ≤ 900) (hq : S.length = q)
    (hS : S ++ (.inr (t, N, (List.range N).map (fun i => q + 1 + i)) :: List.replicate N (.inr (it, K, []))) = S') (hσ : zr σ q (N + 1) = σ') (hl : q + (N + 1) ≤ 900)
    (kk : VG M d X ini S1 σ1 vr rc rs (pc + 4) L (.ref q :: st) S' σ') : VG M d X ini S1 σ1 vr (rc + (1 + N)) (rs + (N + N * K)) pc L (.int k :: .int n :: st) S σ := by
  subst hq
  subst hS
  subst hσ
  subst hN
  subst hK
  intro p l e R s m args below meth c E h0 Q cells slots C hc hs hn F H locs ls G hL T hT Xs
  have hE := C.2.2.2.2.2.1
  have hts := C.2.2.2.2.1
  have hup := Xs.heapSize
  rw [hT] at hup
  have hlo := G.lo hE C.2.2.2.2.2.2.2.1
  have hz : H.size = h0 + S.length := by omega
  have hE0 : E.1 S.length = H.size := by rw [hE _ (by omega)]; exact hz.symm
  have hov : (Cond.arrayOver (.array ty)).before args s = true := by
    rcases ht with ⟨rfl, -, -⟩ | ⟨rfl, -, -⟩
    · exact over_moved (Vm.Alike.refl s.vm) C.2.2.2.2.2.2.2.2.2.2.2.1
    · exact over_moved (Vm.Alike.refl s.vm) C.2.2.2.2.2.2.2.2.2.2.2.2
  have hf1 : fits ty (defaultValue ty) = true ∧ (defaultValue ty).isDefault = true ∧ componentBytes ty ≤ 8 := by rcases ht with ⟨rfl, -, -⟩ | ⟨rfl, -, -⟩ <;> decide
  have hb2 : k.toNatClampNeg * componentBytes ty ≤ 536870912 := Nat.le_trans (Nat.mul_le_mul hNK.2 hf1.2.2) (by decide)
  obtain ⟨vm₁, cA, comp, -, fA, fC, -, -, X', step⟩ := Xs.multianewarray2F C.1 C.2.2.2.1 (hts _ hcl) hov (hts _ har) (g := F0 m pc ls (.int k :: .int n :: cvs E st)) rfl (by rw [C.2.1]; exact hd) rfl hn0 hk0 (by omega) hb2 (by omega) hf1.1 hf1.2.1 (by omega) (by omega)
  have hKt := C.2.2.2.2.2.2.1.1.2
  have eA : cA = E.2.2 t ∧ comp = E.2.2 it := by
    rcases ht with ⟨rfl, rfl, rfl⟩ | ⟨rfl, rfl, rfl⟩
    · have h9 : s.vm.findClass ("[" ++ (FieldType.array .int).toString) = some (E.2.2 4) := (hKt 4 (E.2.2 4, .array .int) rfl).2
      have h8 : s.vm.findClass ("[" ++ FieldType.int.toString) = some (E.2.2 0) := (hKt 0 (E.2.2 0, .int) rfl).2
      exact ⟨Option.some.inj (fA.symm.trans h9), Option.some.inj (fC.symm.trans h8)⟩
    · have h9 : s.vm.findClass ("[" ++ (FieldType.array .long).toString) = some (E.2.2 5) := (hKt 5 (E.2.2 5, .array .long) rfl).2
      have h8 : s.vm.findClass ("[" ++ FieldType.long.toString) = some (E.2.2 3) := (hKt 3 (E.2.2 3, .long) rfl).2
      exact ⟨Option.some.inj (fA.symm.trans h9), Option.some.inj (fC.symm.trans h8)⟩
  generalize hF : Jvm.Free.Multi.fill (T.setVm vm₁) cA comp n.toNatClampNeg k.toNatClampNeg (defaultValue ty) n.toNatClampNeg = F1 at X' step
  have hTh : (T.setVm vm₁).heap = H := hT
  obtain ⟨f1, f2, -, -⟩ := Jvm.Free.Multi.fill_facts (T.setVm vm₁) cA comp n.toNatClampNeg k.toNatClampNeg (defaultValue ty) n.toNatClampNeg
  rw [hF, hTh] at f1 f2
  have hold : ∀ x : Nat, x < H.size → F1.heap[x]? = H[x]? := fun x hx => by
    have := Jvm.Free.Multi.fill_old (T.setVm vm₁) cA comp n.toNatClampNeg k.toNatClampNeg (defaultValue ty) (a := x) (by rw [hTh]; exact hx) n.toNatClampNeg
    rw [hF, hTh] at this
    exact this
  have hrow : ∀ j : Nat, j < n.toNatClampNeg → F1.heap[H.size + 1 + j]? = some (arrV comp k.toNatClampNeg (fun _ => defaultValue ty)) := fun j hj => by
    have := Jvm.Free.Multi.fill_inner (T.setVm vm₁) cA comp n.toNatClampNeg k.toNatClampNeg (defaultValue ty) n.toNatClampNeg j hj
    rw [hF, hTh] at this
    rw [this, ← arrV_new]
    rfl
  have ht3 : ¬ t < 3 ∧ ¬ t = 3 := by rcases ht with ⟨-, rfl, -⟩ | ⟨-, rfl, -⟩ <;> decide
  have hout : Jvm.Free.Multi.outerC cA n.toNatClampNeg H.size n.toNatClampNeg = vp_cell (E.2.2 t) (n.toNatClampNeg, shA E (zr σ S.length (n.toNatClampNeg + 1)) S.length ((List.range n.toNatClampNeg).map (fun i => S.length + 1 + i)) t) := by
    unfold shA
    rw [if_neg ht3.1, if_neg ht3.2, eA.1, vp_cell_q]
    refine outer_arr _ _ _ _ (fun j hj => ?_)
    rw [List.getElem?_map, List.getElem?_range hj]
    show some (E.1 (S.length + 1 + j)) = _
    rw [hE _ (by omega), hz]
    congr 1
    omega
  have GP1 : GW E X (S ++ (.inr (t, n.toNatClampNeg, (List.range n.toNatClampNeg).map (fun i => S.length + 1 + i)) :: List.replicate n.toNatClampNeg (.inr (it, k.toNatClampNeg, [])))) (zr σ S.length (n.toNatClampNeg + 1)) s F1.heap locs := by
    refine G.push hE hz _ (by rw [List.length_cons, List.length_replicate]; omega) (by rw [List.length_cons, List.length_replicate, f1]; omega) hold zr_off (fun i c0 hi => ?_)
    cases i with
    | zero =>
      cases hi
      show F1.heap[E.1 S.length]? = some (vp_cell _ _)
      rw [hE0, f2, hout]
      rfl
    | succ j =>
      rw [List.getElem?_cons_succ] at hi
      have hj : j < n.toNatClampNeg := by
        have := (List.getElem?_eq_some_iff.mp hi).1
        rw [List.length_replicate] at this
        exact this
      rw [List.getElem?_replicate, if_pos hj] at hi
      cases hi
      show F1.heap[E.1 (S.length + (j + 1))]? = some (vp_cell (E.2.2 it) (k.toNatClampNeg, shA E (zr σ S.length (n.toNatClampNeg + 1)) (S.length + (j + 1)) [] it))
      rw [hE _ (by omega), show h0 + (S.length + (j + 1)) = H.size + 1 + j by omega, hrow j hj, eA.2]
      rcases ht with ⟨rfl, -, rfl⟩ | ⟨rfl, -, rfl⟩
      · have : shA E (zr σ S.length (n.toNatClampNeg + 1)) (S.length + (j + 1)) [] 0 = .inl (fun _ => 0) := by
          show Sum.inl (gA _ _) = _
          congr 1
          funext i
          rw [gA_zr, if_pos (by omega)]
        rw [this]
        rfl
      · have : shA E (zr σ S.length (n.toNatClampNeg + 1)) (S.length + (j + 1)) [] 3 = .inr (.inl (fun _ => 0)) := by
          show Sum.inr (Sum.inl (gL _ _)) = _
          congr 2
          funext i
          rw [gL_zr, if_pos (by omega)]
        rw [this]
        rfl
  obtain ⟨t9, a1, b1⟩ := kk p l e R s m args below meth c E h0 Q (cells + 1 + n.toNatClampNeg) (slots + n.toNatClampNeg + n.toNatClampNeg * k.toNatClampNeg) C (by omega) (by omega) (by rw [List.length_append, List.length_cons, List.length_replicate]; omega)
    (by rw [show cells + 1 + n.toNatClampNeg + rc = cells + (rc + (1 + n.toNatClampNeg)) by omega, show slots + n.toNatClampNeg + n.toNatClampNeg * k.toNatClampNeg + rs = slots + (rs + (n.toNatClampNeg + n.toNatClampNeg * k.toNatClampNeg)) by omega]; exact F) F1.heap locs ls GP1 hL F1 rfl X'
  refine ⟨t9, step t9 ?_, b1⟩
  have e9 : T.heap.size = E.1 S.length := by rw [hT]; exact hE0.symm
  rw [e9]
  exact a1
theorem g_ci {idx k mc ms d' : Nat} {y : MethodName} {My : MC} (hd : decode M.2.1 pc = .ok (.invokespecial idx, 3)) (hG : GI M.1 idx y My) (hst : (st.map fun v => v.category).sum ≤ 8) (hdd : d' + 1 ≤ d) (hc : CG y My d' X mc ms [.ref k] S σ S' σ') (hlen : S'.length = S.length + mc) (hl : S'.length ≤ 900)
    (kk : VG M d X ini S1 σ1 vr rc rs (pc + 3) L st S' σ') : VG M d X ini S1 σ1 vr (rc + mc) (rs + ms) pc L (.ref k :: st) S σ := by
  intro p l e R s m args below meth c E h0 Q cells slots C hcc hss hn F H locs ls G hL T hT Xs
  have hE := C.2.2.2.2.2.1
  have hts := C.2.2.2.2.1
  have hup := Xs.heapSize
  rw [hT] at hup
  have hlo := G.lo hE C.2.2.2.2.2.2.2.1
  have hz : H.size = h0 + S.length := by omega
  suffices hw : W p l e R s m args below meth c H locs cells slots Q (F0 m pc ls (cvs E (.ref k :: st))) from hw T hT Xs
  have hM := hc l E h0 hE
  obtain ⟨⟨g1, g2, g3, g4, g5, g6⟩, q1, q2, q3, q4⟩ := hG
  have h9 : d ≤ R.frames := C.2.2.2.2.2.2.2.2.1
  have h10 : 200 * d ≤ R.locals := C.2.2.2.2.2.2.2.2.2.1
  have hAw : ∀ q, Aw E (S, X) q → Aw E (S', X) q := fun q hq => (Aw_h hE hl).mpr (by
    have := (Aw_h hE G.2.2).mp hq
    omega)
  have hrm : (rmG d' mc ms).frames + 1 ≤ R.frames ∧ 8 + (My.2.2.1 + 11) + (rmG d' mc ms).locals ≤ R.locals := by
    constructor
    · show d' + 1 ≤ R.frames
      omega
    · show 8 + (My.2.2.1 + 11) + 200 * d' ≤ R.locals
      omega
  have hpre : PreS s H (va_Pc (cvs E [.ref k]) (PG E h0 X S σ)) (.ref (E.1 k) :: []) := ⟨PG_blind _, fun U hU hW => ⟨rfl, Gk.kept (H := s.heap) (fun a h1 h2 => by
      rw [hU]
      exact G.2.1.2.1 a h1 (fun w => h2 ((Aw_h hE G.2.2).mp w).1)) (Gk.warm hW C.2.2.2.2.2.2.1), by show va_P _ _ _ U.heap; rw [hU]; exact G.1, by rw [hU]; exact hz, G.2.2, C.2.2.2.2.2.2.2.2.2.2.2.moved hW.alike⟩⟩
  have hcat : 2 * (F0 m pc ls (cvs E (.ref k :: st))).monitorRoom + ((cvs E st).map fun v => v.category).sum ≤ 8 := lv_room (by
      have : ((cvs E st).map fun v => v.category) = st.map fun v => v.category := by
        unfold cvs
        rw [List.map_map]
        exact List.map_congr_left (fun v _ => cv_cat E v)
      rw [this]; exact hst)
  have run : va_Run p l e R s m args below meth c H locs cells slots mc ms (F0 m pc ls (cvs E (.ref k :: st))) (cvs E st) (va_Qv (fun _ : Unit => True) (fun _ t => WH E (S', X) σ' t) (Aw E (S', X)) (Value.ref (E.1 k) :: []).toArray) (Aw E (S', X)) := by
    rcases q4 with q4 | ⟨host, q4⟩
    · exact va_runI (nL := M.2.2.1) (As := []) (rest := cvs E st) (b := E.1 k) ⟨C.1, C.2.1, C.2.2.1, C.2.2.2.1, hts⟩ hM (cwI 0 hts (GC.good ⟨g1, g2, g3, g4, g5, g6⟩) (by rw [q1]) rfl rfl (hts _ g2) (hts _ q4) (hts _ q3) q2 ⟨g3, g4, g5⟩ hrm) hpre rfl rfl hL.1 rfl hcat hd ⟨by omega, by omega⟩
    · have hnw : va_Nw (.methodLinkNest M.1 idx y host) s := C.2.2.2.2.2.2.1.2.2.2.2.2.2.1 _ q4
      exact va_runIN (nL := M.2.2.1) (Ts := TB) (As := []) (rest := cvs E st) (b := E.1 k) ⟨C.1, C.2.1, C.2.2.1, C.2.2.2.1, hts⟩ hM ⟨va_cnB 0 hts (GC.good ⟨g1, g2, g3, g4, g5, g6⟩) (by rw [q1]) rfl rfl hnw (hts _ g2) ⟨g3, g4, g5⟩ hrm, q2, hts _ q3⟩ hpre rfl rfl hL.1 rfl hcat hd ⟨by omega, by omega⟩
  refine va_callv (Q := Q) run (A0 := Aw E (S', X)) ⟨G.2.1.1, fun q h1 h2 => G.2.1.2.1 q h1 (fun w => h2 (hAw q w)), fun q hq => hAw _ (G.2.1.2.2 q hq)⟩ (fun _ _ q => q) (fun _ q => q) (fun u t H1 locs1 ht hvm hw hB hz1 hk1 hS1 => ?_)
  have hB : va_P _ _ _ t.heap := hB
  rw [ht] at hB
  exact kk p l e R s m args below meth c E h0 Q (cells + mc) (slots + ms) C (by omega) (by omega) (by omega) (by rw [show cells + mc + rc = cells + (rc + mc) by omega, show slots + ms + rs = slots + (rs + ms) by omega]; exact F) H1 locs1 ls ⟨hB, hS1, hl⟩ hL
end VGM2
