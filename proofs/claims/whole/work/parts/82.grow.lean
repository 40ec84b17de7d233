/-! worlds that grow: the cell k stands at h0 + k -/
def z0 : St := (fun _ _ => 0, fun _ _ => 0, fun _ _ => 0)
def zr (σ : St) (k n : Nat) : St := ((fun a => if k ≤ a ∧ a < k + n then (fun _ => 0) else σ.1 a), (fun a => if k ≤ a ∧ a < k + n then (fun _ => 0) else σ.2.1 a), (fun a => if k ≤ a ∧ a < k + n then (fun _ => 0) else σ.2.2 a))
theorem gF_zr (σ : St) (k n a j : Nat) : gF (zr σ k n) a j = if k ≤ a ∧ a < k + n then 0 else gF σ a j := by unfold gF zr; by_cases h : k ≤ a ∧ a < k + n <;> simp [h]
theorem gA_zr (σ : St) (k n a j : Nat) : gA (zr σ k n) a j = if k ≤ a ∧ a < k + n then 0 else gA σ a j := by unfold gA zr; by_cases h : k ≤ a ∧ a < k + n <;> simp [h]
theorem gL_zr (σ : St) (k n a j : Nat) : gL (zr σ k n) a j = if k ≤ a ∧ a < k + n then 0 else gL σ a j := by unfold gL zr; by_cases h : k ≤ a ∧ a < k + n <;> simp [h]
def Eh (h0 : Nat) (E : En) : Prop := ∀ k, k < 1000 → E.1 k = h0 + k
def Ah (h0 : Nat) : Nat → Prop := fun q => h0 ≤ q
section GROW
variable {E : En} {h0 : Nat} {X : Nat × (Nat → Int32)} {S S' : List Sh} {σ σ' : St} {s : State} {H H1 : Heap} {locs : List Loc}
theorem EOK_h (hE : Eh h0 E) (hl : S.length ≤ 900) : EOK E (S, X) := fun i j hi hj e => by
  have hi : i < S.length := hi
  have hj : j < S.length := hj
  rw [hE i (by omega), hE j (by omega)] at e
  omega
theorem Aw_h (hE : Eh h0 E) (hl : S.length ≤ 900) {q : Nat} : Aw E (S, X) q ↔ h0 ≤ q ∧ q < h0 + S.length := by
  constructor
  · rintro ⟨k, hk, rfl⟩
    have hk : k < S.length := hk
    rw [hE k (by omega)]
    omega
  · intro ⟨h1, h2⟩
    exact ⟨q - h0, (show q - h0 < S.length by omega), by rw [hE _ (by omega)]; omega⟩
/-- a point: the world S with the values σ -/
def GW (E : En) (X : Nat × (Nat → Int32)) (S : List Sh) (σ : St) (s : State) (H : Heap) (locs : List Loc) : Prop :=
  va_P E.2.1 vwCl (wd E (S, X) σ) H ∧ va_S (Aw E (S, X)) s.heap H locs ∧ S.length ≤ 900
theorem GW.lo (h : GW E X S σ s H locs) (hE : Eh h0 E) (h0s : h0 ≤ s.heap.size) : h0 + S.length ≤ H.size := by
  by_cases hS : S.length = 0
  · have := h.2.1.1
    omega
  · have hk : S.length - 1 < S.length := by omega
    have g := wd_get (E := E) (σ := σ) (SH := (S, X)) (List.getElem?_eq_getElem hk)
    have := (h.1 _ _ g).lt
    have h9 := h.2.2
    dsimp only at this
    rw [hE _ (by omega)] at this
    omega
theorem GW.push (h : GW E X S σ s H locs) (hE : Eh h0 E) (hz : H.size = h0 + S.length) (cs : List Sh) (hl : S.length + cs.length ≤ 900) (hH : H1.size = H.size + cs.length) (ho : ∀ q : Nat, q < H.size → H1[q]? = H[q]?)
    (hσ : ∀ k, k < S.length → (∀ j, gF σ' k j = gF σ k j) ∧ gA σ' k = gA σ k ∧ gL σ' k = gL σ k)
    (hn : ∀ i c, cs[i]? = some c → va_at E.2.1 vwCl (E.1 (S.length + i), shE E σ' (S.length + i) c) H1) : GW E X (S ++ cs) σ' s H1 locs := by
  obtain ⟨h1, h2, h3⟩ := h
  have hl' : (S ++ cs).length ≤ 900 := by rw [List.length_append]; omega
  have mono : ∀ q, Aw E (S, X) q → Aw E (S ++ cs, X) q := fun q hq => (Aw_h hE hl').mpr (by
    have := (Aw_h hE h3).mp hq
    rw [List.length_append]
    omega)
  refine ⟨fun k q hk => ?_, ⟨by have := h2.1; omega, fun q hq hA => ?_, fun l hl => mono _ (h2.2.2 l hl)⟩, hl'⟩
  · obtain ⟨c, hc, rfl⟩ := wd_get' hk
    have hc : (S ++ cs)[k]? = some c := hc
    by_cases hlt : k < S.length
    · rw [List.getElem?_append_left hlt] at hc
      have g := wd_get (E := E) (σ := σ) (SH := (S, X)) hc
      obtain ⟨o1, o2, o3⟩ := hσ k hlt
      rw [shE_off o1 o2 o3]
      exact (h1 k _ g).kept (ho _ (h1 k _ g).lt)
    · rw [List.getElem?_append_right (by omega)] at hc
      have := hn _ _ hc
      rw [show S.length + (k - S.length) = k by omega] at this
      exact this
  · have h4 := h2.1
    rw [ho q (by omega)]
    exact h2.2.1 q hq (fun w => hA (mono q w))
end GROW
/-- the arrays of arrays: a word that a call doesn't carry by itself -/
def AO (U : State) : Prop := (Cond.arrayOver (.array .int)).before #[] U = true ∧ (Cond.arrayOver (.array .long)).before #[] U = true
theorem AO.moved {u U : State} (hvm : u.vm.Alike U.vm) (h : AO u) : AO U := ⟨over_moved hvm h.1, over_moved hvm h.2⟩
/-- what a growing walk has of its start -/
def Cg (M : MC) (d : Nat) (X : Nat × (Nat → Int32)) (ini : Prop) (p : Program) (R : Room) (s : State) (m : MethodId) (args : Array Value) (meth : Method) (c : Code) (E : En) (h0 : Nat) : Prop :=
  p.tables.exec = Jvm.exec ∧ c.code = M.2.1 ∧ c.maxLocals = M.2.2.1 ∧ s.vm.findClass M.1 = some m.cls ∧ (∀ w ∈ TB, w.before args s = true) ∧ Eh h0 E ∧ Gk E X (Ah h0) s s.heap ∧ h0 ≤ s.heap.size ∧ d ≤ R.frames ∧ 200 * d ≤ R.locals ∧ (ini → meth.name = "<init>") ∧ AO s
def VG (M : MC) (d : Nat) (X : Nat × (Nat → Int32)) (ini : Prop) (S1 : List Sh) (σ1 : St) (vr : Option Value) (rc rs pc : Nat) (L : List (Nat × Value)) (st : List Value) (S : List Sh) (σ : St) : Prop :=
  ∀ (p : Program) (l : Launch) (e : Env) (R : Room) (s : State) (m : MethodId) (args : Array Value) (below : List Frame) (meth : Method) (c : Code) (E : En) (h0 : Nat) (Q : State → Prop) (cells slots : Nat),
    Cg M d X ini p R s m args meth c E h0 → cells + rc ≤ R.cells → slots + rs ≤ R.slots → s.heap.size + cells = h0 + S.length →
    (∀ (pc : Nat) (ls : Array Slot) (H : Heap) (locs : List Loc), RetI M pc vr → GW E X S1 σ1 s H locs → W p l e R s m args below meth c H locs (cells + rc) (slots + rs) Q (F0 m pc ls (cvs E vr.toList))) →
    ∀ (H : Heap) (locs : List Loc) (ls : Array Slot), GW E X S σ s H locs → lv_has ls M.2.2.1 (cvL E L) → W p l e R s m args below meth c H locs cells slots Q (F0 m pc ls (cvs E st))
theorem Cg.x {M : MC} {d : Nat} {X : Nat × (Nat → Int32)} {ini : Prop} {p : Program} {R : Room} {s : State} {m : MethodId} {args : Array Value} {meth : Method} {c : Code} {E : En} {h0 : Nat} {S : List Sh} (C : Cg M d X ini p R s m args meth c E h0) (hl : S.length ≤ 900) : Cx M d (S, X) p R s m args meth c E := by
  obtain ⟨c1, c2, c3, c4, c5, c6, c7, c8, c9, c10, c11⟩ := C
  exact ⟨c1, c2, c3, c4, c5, EOK_h c6 hl, c7.narrow (fun q hq => ((Aw_h c6 hl).mp hq).1), c9, c10⟩
/-- an object of a class comes: its tables' words -/
def dvOk (v : Value) (f : Option (Option (Option Nat))) : Bool := match v, f with
  | .int x, some none => decide (x = 0)
  | .null, some (some none) => true
  | _, _ => false
theorem dvOk_v {E : En} {σ : St} {k j : Nat} {fs : List (Option (Option Nat))} {v : Value} (h : dvOk v fs[j]? = true) (h0 : ∀ j, gF σ k j = 0) : v = vp_V (shV E σ k 0 fs) j := by
  unfold vp_V
  rw [List.getD_eq_getElem?_getD, shV_get]
  cases hf : fs[j]? with
  | none =>
    rw [hf] at h
    cases v <;> cases h
  | some a =>
    rw [hf] at h
    cases a with
    | none =>
      cases v with
      | int x =>
        have : x = 0 := of_decide_eq_true h
        subst this
        show _ = Value.int (gF σ k (0 + j))
        rw [h0]
      | _ => cases h
    | some b =>
      cases b with
      | none =>
        cases v with
        | null => rfl
        | _ => cases h
      | some r => cases v <;> cases h
def GN (own : String) (idx ci N : Nat) (fs : List (Option (Option Nat))) : Prop := ∃ (C : String) (T : u_T) (ty : Nat → FieldType), vwCl[ci]? = some (C, T, N) ∧ (∀ w ∈ u_ws C T N, w ∈ TB) ∧ (∀ k, k < N → parseFieldDescriptor (T k).2.2.1 = some (ty k)) ∧ Cond.classLink own idx C ∈ TB ∧ Cond.instantiable C N ∈ TB ∧ Cond.initialized C ∈ TB ∧ ∀ j, j < N → dvOk (defaultValue (ty j)) fs[j]? = true
/-- a final reference field, written by its own constructor -/
def GQ (own : String) (idx ci j : Nat) (ty : FieldType) : Prop := ∃ (C : String) (T : u_T) (N : Nat) (ty0 : Nat → FieldType), vwCl[ci]? = some (C, T, N) ∧ (∀ w ∈ u_ws C T N, w ∈ TB) ∧ j < N ∧ Cond.fieldLink own idx (T j).1 (T j).2.1 (T j).2.2.1 ∈ TB ∧ (∀ k, k < N → parseFieldDescriptor (T k).2.2.1 = some (ty0 k)) ∧ (∀ a, a < N → ∀ b, b < N → a ≠ b → (T a).2.1 ≠ (T b).2.1) ∧ (T j).2.2.2 = true ∧ (T j).1 = own ∧ parseFieldDescriptor (T j).2.2.1 = some ty ∧ ((∃ n, ty = .object n) ∨ ∃ t, ty = .array t)
def GO (own : String) (idx : Nat) : Prop := Cond.methodLink own idx Lib.objectInit ∈ TB ∧ Cond.instanceMethod Lib.objectInit ∈ TB ∧ Cond.code Lib.objectInit ⟨#[0xb1]⟩ 1 none ∈ TB
def GI (own : String) (idx : Nat) (y : MethodName) (My : MC) : Prop := GC y My 0 ∧ My.2.2.2 = none ∧ y.name = "<init>" ∧ Cond.instanceMethod y ∈ TB ∧ (Cond.methodLink own idx y ∈ TB ∨ ∃ host, Cond.methodLinkNest own idx y host ∈ NW)
def rmG (d mc ms : Nat) : Room := { frames := d, cells := mc, slots := ms, locals := 200 * d }
def PG (E : En) (h0 : Nat) (X : Nat × (Nat → Int32)) (S : List Sh) (σ : St) : State → Prop := fun U => Gk E X (Ah h0) U U.heap ∧ WH E (S, X) σ U ∧ U.heap.size = h0 + S.length ∧ S.length ≤ 900 ∧ AO U
/-- the contract of a constructor -/
def CG (y : MethodName) (M : MC) (d : Nat) (X : Nat × (Nat → Int32)) (mc ms : Nat) (av : List Value) (S0 : List Sh) (σ0 : St) (S1 : List Sh) (σ1 : St) : Prop :=
  ∀ (l : Launch) (E : En) (h0 : Nat), Eh h0 E → Met l y (.code y M.2.1 M.2.2.1 M.2.2.2 :: TB) (rmG d mc ms) (va_Pc (cvs E av) (PG E h0 X S0 σ0)) (va_Qv (fun _ : Unit => True) (fun _ t => WH E (S1, X) σ1 t) (Aw E (S1, X))) mc ms (Aw E (S1, X))
theorem PG_blind {E : En} {h0 : Nat} {X : Nat × (Nat → Int32)} {S : List Sh} {σ : St} (av : List Value) : FrameBlind (va_Pc av (PG E h0 X S σ)) := fun a U g mk q => ⟨q.1, Gk.same (u := U) (U := U.calling g mk a) rfl q.2.1, q.2.2.1, q.2.2.2.1, q.2.2.2.2.1, AO.moved (u := U) (U := U.calling g mk a) (Vm.Alike.refl U.vm) q.2.2.2.2.2⟩
theorem CG.of {y : MethodName} {M : MC} {d : Nat} {X : Nat × (Nat → Int32)} {mc ms : Nat} {av : List Value} {S0 S1 : List Sh} {σ0 σ1 : St} (hy : plainName y.cls = true) (hM : M.1 = y.cls) (hi : y.name = "<init>")
    (hlen : ∀ E, (lg_sl (cvs E av)).length ≤ M.2.2.1) (h : VG M d X True S1 σ1 none mc ms 0 (lv_args 0 av) [] S0 σ0) : CG y M d X mc ms av S0 σ0 S1 σ1 := by
  intro l E h0 hE
  refine Met.ofW (cc := M.2.1) (maxL := M.2.2.1) (ret := M.2.2.2) hy rfl ?_
  intro p e s m args below meth c s₁ B hml hv
  obtain ⟨rfl, hG, hP, hz, hl9, hAO⟩ := hv
  have hts := atoms_spec (ws := .code y M.2.1 M.2.2.1 M.2.2.2 :: TB) B.pre
  have hown : s.vm.findClass M.1 = some m.cls := by rw [hM]; exact findClass_of_methodNamed B.named
  have hr := B.returns
  have hx := B.exec
  have hb := B.bytes
  have hl := lv_entry (cvs E av) (n := M.2.2.1) (hlen E)
  have hnm : meth.name = "<init>" := (name_of_methodNamed B.named B.method).1.trans hi
  rw [lv_args_cv] at hl
  rw [lg_entry_eq]
  refine h p l e _ s m _ below meth c E h0 _ 0 0 ⟨hx, hb, hml, hown, fun w hw => hts w (List.mem_cons_of_mem _ hw), hE, hG, by omega, Nat.le_refl d, Nat.le_refl (200 * d), fun _ => hnm, hAO⟩ (by show 0 + mc ≤ mc; omega) (by show 0 + ms ≤ ms; omega) (by omega) ?_ s.heap [] _ ⟨hP, va_S.rf, hl9⟩ hl
  intro pc ls H locs hR hP2
  obtain ⟨r1, r2⟩ := hR
  rw [Nat.zero_add, Nat.zero_add]
  exact W.vret hx hb (hr.trans r2) (fun t ht hW => ⟨⟨(), rfl, trivial, by show va_P _ _ _ t.heap; rw [ht]; exact hP2.1⟩, hP2.2.1.F ht⟩) hP2.2.1.2.2 r1 B.notSynchronized
