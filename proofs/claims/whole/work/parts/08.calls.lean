/-! contracts and calls -/
def WH (E : En) (SH : SHT) (σ : St) (t : State) : Prop := va_P E.2.1 vwCl (wd E SH σ) t.heap
def QR (E : En) (SH : SHT) (vr : Option Value) (σr : St) : Array Value → State → Outcome → State → Prop := match vr with
  | none => va_Qv (fun _ : Unit => True) (fun _ t => WH E SH σr t) (Aw E SH)
  | some (.int v) => va_Qi (fun r (_ : Unit) => r = v) (fun _ t => WH E SH σr t) (Aw E SH)
  | some (.long v) => va_Ql (fun r (_ : Unit) => r = v) (fun _ t => WH E SH σr t) (Aw E SH)
  | some (.ref k) => va_Qr (fun _ : Unit => True) (fun _ a t => a = E.1 k ∧ WH E SH σr t) (Aw E SH)
  | _ => fun _ _ _ _ => False
def PB (E : En) (SH : SHT) (σ : St) : State → Prop := fun U => Gk E SH.2 (Aw E SH) U U.heap ∧ WH E SH σ U
/-- the contract of y: from the world σ, with the arguments av, it comes to the answer that o has -/
def CT {α : Type} (y : MethodName) (M : MC) (d : Nat) (SH : SHT) (ι : α → Option Value × St) (av : List Value) (σ : St) (o : Option α) : Prop :=
  ∀ z, o = some z → ∀ (l : Launch) (E : En), EOK E SH → Met l y (.code y M.2.1 M.2.2.1 M.2.2.2 :: TB) (rmd d) (va_Pc (cvs E av) (PB E SH σ)) (QR E SH (ι z).1 (ι z).2) 0 0 (Aw E SH)
theorem PB_blind {E : En} {SH : SHT} {σ : St} (av : List Value) : FrameBlind (va_Pc av (PB E SH σ)) := fun a U g mk q => ⟨q.1, Gk.same (u := U) (U := U.calling g mk a) rfl q.2.1, q.2.2⟩
theorem lv_args_cv (E : En) : ∀ (av : List Value) (i : Nat), lv_args i (cvs E av) = cvL E (lv_args i av)
  | [], i => rfl
  | v :: vs, i => by
    show (i, cv E v) :: lv_args (if (cv E v).category = 2 then i + 2 else i + 1) (cvs E vs) = _
    rw [cv_cat, lv_args_cv E vs]
    rfl
theorem CT.of {α : Type} {y : MethodName} {M : MC} {d : Nat} {SH : SHT} {ι : α → Option Value × St} {av : List Value} {σ : St} {o : Option α} (hy : plainName y.cls = true) (hM : M.1 = y.cls)
    (hlen : ∀ E, (lg_sl (cvs E av)).length ≤ M.2.2.1) (h : VF M d SH ι 0 (lv_args 0 av) [] σ o) : CT y M d SH ι av σ o := by
  intro z hz l E hE
  refine Met.ofW (cc := M.2.1) (maxL := M.2.2.1) (ret := M.2.2.2) hy rfl ?_
  intro p e s m args below meth c s₁ B hml hv
  obtain ⟨rfl, hG, hP⟩ := hv
  have hts := atoms_spec (ws := .code y M.2.1 M.2.2.1 M.2.2.2 :: TB) B.pre
  have hown : s.vm.findClass M.1 = some m.cls := by rw [hM]; exact findClass_of_methodNamed B.named
  have hr := B.returns
  have hx := B.exec
  have hb := B.bytes
  have hl := lv_entry (cvs E av) (n := M.2.2.1) (hlen E)
  rw [lv_args_cv] at hl
  rw [lg_entry_eq]
  refine h z hz p l e _ s m _ below meth c E _ 0 0 ⟨hx, hb, hml, hown, fun w hw => hts w (List.mem_cons_of_mem _ hw), hE, hG, Nat.le_refl d, Nat.le_refl (200 * d)⟩ (Nat.zero_le _) (Nat.zero_le _) ?_ s.heap [] _ hP va_S.rf hl
  intro pc ls H locs hR hP2 hS
  generalize hvr : (ι z).1 = vr at hR ⊢
  generalize (ι z).2 = σr at hP2 ⊢
  cases vr with
  | none =>
    obtain ⟨r1, r2⟩ := hR
    exact W.vret hx hb (hr.trans r2) (fun t ht hW => ⟨⟨(), rfl, trivial, by show va_P _ _ _ t.heap; rw [ht]; exact hP2⟩, hS.F ht⟩) hS.2.2 r1 B.notSynchronized
  | some v =>
    cases v with
    | int v =>
      obtain ⟨r1, ty, r2, r3⟩ := hR
      exact W.zret hx hb (hr.trans r2) r3 (fun t ht hW => ⟨⟨v, (), rfl, rfl, by show va_P _ _ _ t.heap; rw [ht]; exact hP2⟩, hS.F ht⟩) hS.2.2 r1 B.notSynchronized
    | long v =>
      obtain ⟨r1, r2⟩ := hR
      exact W.lret hx hb (hr.trans r2) (fun t ht hW => ⟨⟨v, (), rfl, rfl, by show va_P _ _ _ t.heap; rw [ht]; exact hP2⟩, hS.F ht⟩) hS.2.2 r1 B.notSynchronized
    | ref k =>
      obtain ⟨r1, n, r2⟩ := hR
      exact W.aret hx hb (hr.trans r2) (Or.inl ⟨n, rfl⟩) (Or.inr ⟨_, rfl⟩) (fun t ht hW => ⟨⟨(), E.1 k, rfl, trivial, rfl, by show va_P _ _ _ t.heap; rw [ht]; exact hP2⟩, hS.F ht⟩) hS.2.2 r1 B.notSynchronized
    | _ => exact hR.elim
/-- what the tables say of a callee -/
theorem GC.good {y : MethodName} {My : MC} {n : Nat} (h : GC y My n) : GoodIn TB (.code y My.2.1 My.2.2.1 My.2.2.2 :: TB) := fun w hw => by
  rcases List.mem_cons.mp hw with rfl | hw
  · exact TB_good _ h.1
  · exact TB_good _ hw
theorem cvs_app (E : En) (a b : List Value) : cvs E (a ++ b) = cvs E a ++ cvs E b := List.map_append
theorem cvs_rev (E : En) (a : List Value) : cvs E a.reverse = (cvs E a).reverse := by simp [cvs]
section VCALL
variable {α : Type} {M : MC} {d : Nat} {SH : SHT} {ι : α → Option Value × St} {pc : Nat} {L : List (Nat × Value)} {st : List Value} {σ : St}
variable {β : Type} {y : MethodName} {My : MC} {d' idx n : Nat} {ιy : β → Option Value × St} {as stk : List Value} {oy : Option β}
/-- a run of the callee, in the caller -/
def RunQ (M : MC) (d : Nat) (SH : SHT) (pc : Nat) (L : List (Nat × Value)) (stk st : List Value) (σ : St) (vr : Option Value) (σr : St) : Prop :=
  ∀ (p : Program) (l : Launch) (e : Env) (R : Room) (s : State) (m : MethodId) (args : Array Value) (below : List Frame) (meth : Method) (c : Code) (E : En) (cells slots : Nat), Cx M d SH p R s m args meth c E → cells ≤ R.cells → slots ≤ R.slots →
    ∀ (H : Heap) (locs : List Loc) (ls : Array Slot), va_P E.2.1 vwCl (wd E SH σ) H → va_S (Aw E SH) s.heap H locs → lv_has ls M.2.2.1 (cvL E L) →
      ∃ a : Array Value, va_Run p l e R s m args below meth c H locs cells slots 0 0 (F0 m pc ls (cvs E stk)) (cvs E st) (QR E SH vr σr a) (Aw E SH)
theorem run_room {R : Room} {My : MC} {d d' : Nat} (hn : My.2.2.1 ≤ 100) (hd : d' + 1 ≤ d) (h1 : d ≤ R.frames) (h2 : 200 * d ≤ R.locals) : (rmd d').frames + 1 ≤ R.frames ∧ 8 + (My.2.2.1 + 11) + (rmd d').locals ≤ R.locals := by
  constructor
  · show d' + 1 ≤ R.frames
    omega
  · show 8 + (My.2.2.1 + 11) + 200 * d' ≤ R.locals
    omega
theorem runV {k : Nat} (hd : decode M.2.1 pc = .ok (.invokevirtual idx, 3)) (hG : GV M.1 idx y My n) (hn : as.length = n) (hstk : stk = as.reverse ++ .ref k :: st) (hst : (st.map fun v => v.category).sum ≤ 8) (hdd : d' + 1 ≤ d)
    (hrecv : ∀ (s : State) (E : En) (H : Heap) (locs : List Loc), Gk E SH.2 (Aw E SH) s s.heap → va_P E.2.1 vwCl (wd E SH σ) H → va_S (Aw E SH) s.heap H locs → ∃ cellB : Cell, H[E.1 k]? = some cellB ∧ cellB.vm.isStatics = false ∧ s.vm.findClass y.cls = some cellB.cls)
    (hc : CT y My d' SH ιy (.ref k :: as) σ oy) {z : β} (hz : oy = some z) : RunQ M d SH pc L stk st σ (ιy z).1 (ιy z).2 := by
  intro p l e R s m args below meth c E cells slots C hcc hss H locs ls hP hS hL
  obtain ⟨⟨g1, g2, g3, g4, g5, g6⟩, g7, g8, g9⟩ := hG
  have hts := C.2.2.2.2.1
  have hM := hc z hz l E C.2.2.2.2.2.1
  have hws : GoodIn TB (wsV M.1 idx y.cls y (.code y My.2.1 My.2.2.1 My.2.2.2 :: TB)) := fun w hw => by
    unfold wsV at hw
    rcases List.mem_append.mp hw with h | h
    · simp only [List.mem_cons, List.not_mem_nil, or_false] at h
      rcases h with rfl | rfl | rfl | rfl
      · exact TB_good _ g7
      · exact TB_good _ g8
      · exact TB_good _ g9
      · exact TB_good _ g2
    · exact GC.good ⟨g1, g2, g3, g4, g5, g6⟩ w h
  refine ⟨_, va_runV (nL := M.2.2.1) (As := cvs E as) (rest := cvs E st) (b := E.1 k) ⟨C.1, C.2.1, C.2.2.1, C.2.2.2.1, hts⟩ hM (cwV n hts hws rfl rfl rfl ⟨rfl, g3, g4, g5⟩ (run_room g6 hdd C.2.2.2.2.2.2.2.1 C.2.2.2.2.2.2.2.2)) ⟨PB_blind _, hrecv s E H locs C.2.2.2.2.2.2.1 hP hS, fun U hU hW => ⟨rfl, ?_, ?_⟩⟩ rfl (by rw [← hn]; simp [cvs]) hL.1 ?_ (lv_room (by
      have : ((cvs E st).map fun v => v.category) = st.map fun v => v.category := by
        unfold cvs
        rw [List.map_map]
        exact List.map_congr_left (fun v _ => cv_cat E v)
      rw [this]; exact hst)) hd ⟨hcc, hss⟩⟩
  · exact Gk.kept (H := s.heap) (fun a h1 h2 => by rw [hU]; exact hS.2.1 a h1 h2) (Gk.warm hW C.2.2.2.2.2.2.1)
  · show va_P _ _ _ U.heap
    rw [hU]; exact hP
  · show cvs E stk = _
    rw [hstk, cvs_app, cvs_rev]
    rfl
theorem runT (hd : decode M.2.1 pc = .ok (.invokestatic idx, 3)) (hG : GT M.1 idx y My n) (hn : as.length = n) (hstk : stk = as.reverse ++ st) (hst : (st.map fun v => v.category).sum ≤ 8) (hdd : d' + 1 ≤ d)
    (hc : CT y My d' SH ιy as σ oy) {z : β} (hz : oy = some z) : RunQ M d SH pc L stk st σ (ιy z).1 (ιy z).2 := by
  intro p l e R s m args below meth c E cells slots C hcc hss H locs ls hP hS hL
  obtain ⟨⟨g1, g2, g3, g4, g5, g6⟩, g7, g8⟩ := hG
  have hts := C.2.2.2.2.1
  have hM := hc z hz l E C.2.2.2.2.2.1
  have hpre : PreS s H (va_Pc (cvs E as) (PB E SH σ)) (cvs E as) := ⟨PB_blind _, fun U hU hW => ⟨rfl, Gk.kept (H := s.heap) (fun a h1 h2 => by rw [hU]; exact hS.2.1 a h1 h2) (Gk.warm hW C.2.2.2.2.2.2.1), by show va_P _ _ _ U.heap; rw [hU]; exact hP⟩⟩
  have hcat : 2 * (F0 m pc ls (cvs E stk)).monitorRoom + ((cvs E st).map fun v => v.category).sum ≤ 8 := lv_room (by
      have : ((cvs E st).map fun v => v.category) = st.map fun v => v.category := by
        unfold cvs
        rw [List.map_map]
        exact List.map_congr_left (fun v _ => cv_cat E v)
      rw [this]; exact hst)
  have hstk' : (F0 m pc ls (cvs E stk)).stack = (cvs E as).reverse ++ cvs E st := by
    show cvs E stk = _
    rw [hstk, cvs_app, cvs_rev]
  rcases g8 with g8 | ⟨host, g8⟩
  · have hws : GoodIn TB (va_wsS M.1 idx y (.code y My.2.1 My.2.2.1 My.2.2.2 :: TB)) := fun w hw => by
      unfold va_wsS at hw
      rcases List.mem_append.mp hw with h | h
      · simp only [List.mem_cons, List.not_mem_nil, or_false] at h
        rcases h with rfl | rfl | rfl
        · exact TB_good _ g8
        · exact TB_good _ g7
        · exact TB_good _ g2
      · exact GC.good ⟨g1, g2, g3, g4, g5, g6⟩ w h
    exact ⟨_, va_runS (nL := M.2.2.1) (As := cvs E as) (rest := cvs E st) ⟨C.1, C.2.1, C.2.2.1, C.2.2.2.1, hts⟩ hM (va_cwS n hts hws rfl rfl rfl ⟨g3, g4, g5⟩ (run_room g6 hdd C.2.2.2.2.2.2.2.1 C.2.2.2.2.2.2.2.2)) hpre rfl (by rw [← hn]; simp [cvs]) hL.1 hstk' hcat hd ⟨hcc, hss⟩⟩
  · have hnw : va_Nw (.methodLinkNest M.1 idx y host) s := C.2.2.2.2.2.2.1.2.2.2.2.2.2.1 _ g8
    exact ⟨_, va_runSN (nL := M.2.2.1) (Ts := TB) (As := cvs E as) (rest := cvs E st) ⟨C.1, C.2.1, C.2.2.1, C.2.2.2.1, hts⟩ hM ⟨va_cnB n hts (GC.good ⟨g1, g2, g3, g4, g5, g6⟩) rfl rfl rfl hnw (hts _ g2) ⟨g3, g4, g5⟩ (run_room g6 hdd C.2.2.2.2.2.2.2.1 C.2.2.2.2.2.2.2.2), hts _ g7, trivial⟩ hpre rfl (by rw [← hn]; simp [cvs]) hL.1 hstk' hcat hd ⟨hcc, hss⟩⟩
theorem onI {r : Int32} {σr : St} {o : Option α} (h : RunQ M d SH pc L stk st σ (some (.int r)) σr) (kk : VF M d SH ι (pc + 3) L (.int r :: st) σr o) : VF M d SH ι pc L stk σ o := by
  intro z hz p l e R s m args below meth c E Q cells slots C hc hs F H locs ls hP hS hL
  obtain ⟨a, hr⟩ := h p l e R s m args below meth c E cells slots C hc hs H locs ls hP hS hL
  refine va_calli (Q := Q) (a := a) hr hS (fun _ _ q => q) (fun _ q => q) (fun r' u t H1 locs1 ht hvm hw hB hz1 hk1 hS1 => ?_)
  cases hw
  have hB : va_P _ _ _ t.heap := hB
  rw [ht] at hB
  exact kk z hz p l e R s m args below meth c E Q cells slots C hc hs F H1 locs1 ls hB hS1 hL
theorem onL {r : Int64} {σr : St} {o : Option α} (h : RunQ M d SH pc L stk st σ (some (.long r)) σr) (kk : VF M d SH ι (pc + 3) L (.long r :: st) σr o) : VF M d SH ι pc L stk σ o := by
  intro z hz p l e R s m args below meth c E Q cells slots C hc hs F H locs ls hP hS hL
  obtain ⟨a, hr⟩ := h p l e R s m args below meth c E cells slots C hc hs H locs ls hP hS hL
  refine va_calll (Q := Q) (a := a) hr hS (fun _ _ q => q) (fun _ q => q) (fun r' u t H1 locs1 ht hvm hw hB hz1 hk1 hS1 => ?_)
  cases hw
  have hB : va_P _ _ _ t.heap := hB
  rw [ht] at hB
  exact kk z hz p l e R s m args below meth c E Q cells slots C hc hs F H1 locs1 ls hB hS1 hL
theorem onV {σr : St} {o : Option α} (h : RunQ M d SH pc L stk st σ none σr) (kk : VF M d SH ι (pc + 3) L st σr o) : VF M d SH ι pc L stk σ o := by
  intro z hz p l e R s m args below meth c E Q cells slots C hc hs F H locs ls hP hS hL
  obtain ⟨a, hr⟩ := h p l e R s m args below meth c E cells slots C hc hs H locs ls hP hS hL
  refine va_callv (Q := Q) (a := a) hr hS (fun _ _ q => q) (fun _ q => q) (fun u t H1 locs1 ht hvm hw hB hz1 hk1 hS1 => ?_)
  have hB : va_P _ _ _ t.heap := hB
  rw [ht] at hB
  exact kk z hz p l e R s m args below meth c E Q cells slots C hc hs F H1 locs1 ls hB hS1 hL
theorem onR {r : Nat} {σr : St} {o : Option α} (h : RunQ M d SH pc L stk st σ (some (.ref r)) σr) (kk : VF M d SH ι (pc + 3) L (.ref r :: st) σr o) : VF M d SH ι pc L stk σ o := by
  intro z hz p l e R s m args below meth c E Q cells slots C hc hs F H locs ls hP hS hL
  obtain ⟨a, hr⟩ := h p l e R s m args below meth c E cells slots C hc hs H locs ls hP hS hL
  refine va_callr (Q := Q) (a := a) hr hS (fun _ _ q => q) (fun _ q => q) (fun u a' t H1 locs1 ht hvm hw hB hz1 hk1 hS1 => ?_)
  obtain ⟨rfl, hB⟩ := hB
  have hB : va_P _ _ _ t.heap := hB
  rw [ht] at hB
  exact kk z hz p l e R s m args below meth c E Q cells slots C hc hs F H1 locs1 ls hB hS1 hL
/-- the receiver is a cell of the world -/
theorem recvW {ci k : Nat} {fs : List (Option (Option Nat))} {q : vw_C} (hs : SH.1[k]? = some (.inl (ci, fs))) (hq : vwCl[ci]? = some q) (hy : q.1 = y.cls) : ∀ (s : State) (E : En) (H : Heap) (locs : List Loc), Gk E SH.2 (Aw E SH) s s.heap → va_P E.2.1 vwCl (wd E SH σ) H → va_S (Aw E SH) s.heap H locs → ∃ cellB : Cell, H[E.1 k]? = some cellB ∧ cellB.vm.isStatics = false ∧ s.vm.findClass y.cls = some cellB.cls :=
  fun s E H locs hG hP hS => by rw [← hy]; exact va_recv hG.1 hP hq (wd_get hs)
theorem recvS {i k : Nat} (hi : i < 16) (hk : k = 2000 + i) (hy : y.cls = "java/lang/String") : ∀ (s : State) (E : En) (H : Heap) (locs : List Loc), Gk E SH.2 (Aw E SH) s s.heap → va_P E.2.1 vwCl (wd E SH σ) H → va_S (Aw E SH) s.heap H locs → ∃ cellB : Cell, H[E.1 k]? = some cellB ∧ cellB.vm.isStatics = false ∧ s.vm.findClass y.cls = some cellB.cls :=
  fun s E H locs hG hP hS => by rw [hy, hk]; exact vk_recv (i := i) (adK := fun i => E.1 (2000 + i)) hG.2.2.2.2.1 hi hS
theorem runVS {k : Nat} (hd : decode M.2.1 pc = .ok (.invokevirtual idx, 3)) (hG : GV M.1 idx y My n) (hn : as.length = n) (hstk : stk = as.reverse ++ .ref k :: st) (hst : (st.map fun v => v.category).sum ≤ 8) (hdd : d' + 1 ≤ d) (hy : y.cls = "java/lang/String")
    (hc : CT y My d' SH ιy (.ref k :: as) σ oy) (hr : ∀ z, oy = some z → ∃ i, i < 16 ∧ k = 2000 + i) {z : β} (hz : oy = some z) : RunQ M d SH pc L stk st σ (ιy z).1 (ιy z).2 := by
  obtain ⟨i, hi, hk⟩ := hr z hz
  exact runV hd hG hn hstk hst hdd (recvS hi hk hy) hc hz
end VCALL
section VCALL2
variable {α : Type} {M : MC} {d : Nat} {SH : SHT} {ι : α → Option Value × St} {pc : Nat} {L : List (Nat × Value)} {st stk : List Value} {σ : St}
theorem v_cbI {o : Option (Int32 × St)} {f : Int32 → St → Option α} (h : ∀ z, o = some z → RunQ M d SH pc L stk st σ (some (.int z.1)) z.2) (kk : ∀ r σ', VF M d SH ι (pc + 3) L (.int r :: st) σ' (f r σ')) : VF M d SH ι pc L stk σ (cb o f) := by
  cases o with
  | none => exact v_none
  | some q => exact onI (h q rfl) (kk q.1 q.2)
theorem v_cbL {o : Option (Int64 × St)} {f : Int64 → St → Option α} (h : ∀ z, o = some z → RunQ M d SH pc L stk st σ (some (.long z.1)) z.2) (kk : ∀ r σ', VF M d SH ι (pc + 3) L (.long r :: st) σ' (f r σ')) : VF M d SH ι pc L stk σ (cb o f) := by
  cases o with
  | none => exact v_none
  | some q => exact onL (h q rfl) (kk q.1 q.2)
theorem v_cw {o : Option St} {f : St → Option α} (h : ∀ z, o = some z → RunQ M d SH pc L stk st σ none z) (kk : ∀ σ', VF M d SH ι (pc + 3) L st σ' (f σ')) : VF M d SH ι pc L stk σ (cw o f) := by
  cases o with
  | none => exact v_none
  | some q => exact onV (h q rfl) (kk q)
theorem v_cpI {o : Option Int32} {f : Int32 → Option α} (h : ∀ z, o = some z → RunQ M d SH pc L stk st σ (some (.int z)) σ) (kk : ∀ r, VF M d SH ι (pc + 3) L (.int r :: st) σ (f r)) : VF M d SH ι pc L stk σ (cp o f) := by
  cases o with
  | none => exact v_none
  | some q => exact onI (h q rfl) (kk q)
theorem v_cpL {o : Option Int64} {f : Int64 → Option α} (h : ∀ z, o = some z → RunQ M d SH pc L stk st σ (some (.long z)) σ) (kk : ∀ r, VF M d SH ι (pc + 3) L (.long r :: st) σ (f r)) : VF M d SH ι pc L stk σ (cp o f) := by
  cases o with
  | none => exact v_none
  | some q => exact onL (h q rfl) (kk q)
theorem v_cpR {o : Option Nat} {f : Nat → Option α} (h : ∀ z, o = some z → RunQ M d SH pc L stk st σ (some (.ref z)) σ) (kk : ∀ r, VF M d SH ι (pc + 3) L (.ref r :: st) σ (f r)) : VF M d SH ι pc L stk σ (cp o f) := by
  cases o with
  | none => exact v_none
  | some q => exact onR (h q rfl) (kk q)
theorem v_cpU {o : Option Unit} {f : Option α} (h : ∀ z, o = some z → RunQ M d SH pc L stk st σ none σ) (kk : VF M d SH ι (pc + 3) L st σ f) : VF M d SH ι pc L stk σ (cp o (fun _ => f)) := by
  cases o with
  | none => exact v_none
  | some q => exact onV (h q rfl) kk
end VCALL2
