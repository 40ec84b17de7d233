/-! MY OWN FRAME: a method is held against a function 'o' over an abstract state; VF says: if o has an answer, the machine comes to it. -/
abbrev St : Type := (Nat → Nat → Int32) × (Nat → Nat → Int32) × (Nat → Nat → Int64)
def up2 {α : Type} (f : Nat → Nat → α) (k i : Nat) (v : α) : Nat → Nat → α := fun a b => if a = k then (if b = i then v else f a b) else f a b
def gF (σ : St) (k j : Nat) : Int32 := σ.1 k j
def gA (σ : St) (k i : Nat) : Int32 := σ.2.1 k i
def gL (σ : St) (k i : Nat) : Int64 := σ.2.2 k i
def pF (σ : St) (k j : Nat) (v : Int32) : St := (up2 σ.1 k j v, σ.2)
def pA (σ : St) (k i : Nat) (v : Int32) : St := (σ.1, up2 σ.2.1 k i v, σ.2.2)
def pL (σ : St) (k i : Nat) (v : Int64) : St := (σ.1, σ.2.1, up2 σ.2.2 k i v)
def cpN (n : Nat) (f g : Nat → Int32) : Nat → Int32 := fun j => if j < n then f j else g j
def pC (σ : St) (k : Nat) (g : Nat → Int32) : St := (σ.1, (fun a => if a = k then g else σ.2.1 a), σ.2.2)
/-- a cell's shape: an object (class, fields: none a number, some none null, some (some r) the cell r) or an array (type, length, the rows of an outer one) -/
abbrev Sh : Type := (Nat × List (Option (Option Nat))) ⊕ (Nat × Nat × List Nat)
/-- the cells' shapes, and the script: its length, its ints -/
abbrev SHT : Type := List Sh × Nat × (Nat → Int32)
abbrev En : Type := (Nat → Nat) × va_G × (Nat → ClassId)
def tyl (E : En) : List (ClassId × FieldType) := [(E.2.2 0, .int), (E.2.2 1, .byte), (E.2.2 2, .char), (E.2.2 3, .long), (E.2.2 4, .array .int), (E.2.2 5, .array .long)]
def shV (E : En) (σ : St) (k : Nat) : Nat → List (Option (Option Nat)) → List Value
  | _, [] => []
  | j, none :: l => .int (gF σ k j) :: shV E σ k (j + 1) l
  | j, some none :: l => .null :: shV E σ k (j + 1) l
  | j, some (some r) :: l => .ref (E.1 r) :: shV E σ k (j + 1) l
def shA (E : En) (σ : St) (k : Nat) (rows : List Nat) (t : Nat) : (Nat → Int32) ⊕ (Nat → Int64) ⊕ (Nat → UInt32) ⊕ (Nat → UInt64) ⊕ (Nat → Option Nat) :=
  if t < 3 then .inl (gA σ k) else if t = 3 then .inr (.inl (gL σ k)) else .inr (.inr (.inr (.inr (fun i => (rows[i]?).map E.1))))
def shE (E : En) (σ : St) (k : Nat) (c : Sh) : va_E := match c with
  | .inl (ci, fs) => .inr (ci, shV E σ k 0 fs)
  | .inr (t, n, rows) => .inl (E.2.2 t, n, shA E σ k rows t)
def wdF (E : En) (σ : St) : Nat → List Sh → va_W
  | _, [] => []
  | k, c :: l => (E.1 k, shE E σ k c) :: wdF E σ (k + 1) l
def wd (E : En) (SH : SHT) (σ : St) : va_W := wdF E σ 0 SH.1
theorem wdF_get (E : En) (σ : St) : ∀ (SH : List Sh) (b k : Nat), (wdF E σ b SH)[k]? = (SH[k]?).map (fun c => (E.1 (b + k), shE E σ (b + k) c))
  | [], b, k => by simp [wdF]
  | c :: l, b, 0 => by simp [wdF]
  | c :: l, b, k + 1 => by
    have h := wdF_get E σ l (b + 1) k
    simp only [wdF, List.getElem?_cons_succ]
    rw [h, show b + 1 + k = b + (k + 1) by omega]
theorem wd_get {E : En} {σ : St} {SH : SHT} {k : Nat} {c : Sh} (h : SH.1[k]? = some c) : (wd E SH σ)[k]? = some (E.1 k, shE E σ k c) := by
  unfold wd
  rw [wdF_get, h]
  simp
theorem wd_get' {E : En} {σ : St} {SH : SHT} {k : Nat} {q : Nat × va_E} (h : (wd E SH σ)[k]? = some q) : ∃ c, SH.1[k]? = some c ∧ q = (E.1 k, shE E σ k c) := by
  unfold wd at h
  rw [wdF_get] at h
  cases hc : SH.1[k]? with
  | none => rw [hc] at h; cases h
  | some c =>
    rw [hc] at h
    simp at h
    exact ⟨c, rfl, h.symm⟩
theorem wd_len (E : En) (SH : SHT) (σ : St) : (wd E SH σ).length = SH.1.length := by
  have : ∀ (S : List Sh) (b : Nat), (wdF E σ b S).length = S.length := by
    intro S
    induction S with
    | nil => intro b; rfl
    | cons c l ih => intro b; simp [wdF, ih]
  exact this SH.1 0
theorem wd_set {E : En} {σ σ' : St} {SH : SHT} {k : Nat} {c : Sh} (hc : SH.1[k]? = some c) (h : ∀ j c', j ≠ k → shE E σ' j c' = shE E σ j c') : (wd E SH σ).set k (E.1 k, shE E σ' k c) = wd E SH σ' := by
  apply List.ext_getElem?
  intro j
  by_cases hj : j = k
  · subst hj
    rw [List.getElem?_set_self (by rw [wd_len]; exact (List.getElem?_eq_some_iff.mp hc).1), wd_get hc]
  · rw [List.getElem?_set_ne (Ne.symm hj)]
    unfold wd
    rw [wdF_get, wdF_get]
    cases SH.1[j]? with
    | none => rfl
    | some c' => simp [h j c' hj]
theorem shV_get {E : En} {σ : St} {k : Nat} : ∀ (fs : List (Option (Option Nat))) (b j : Nat), (shV E σ k b fs)[j]? = (fs[j]?).map (fun x => match x with | none => Value.int (gF σ k (b + j)) | some none => .null | some (some r) => .ref (E.1 r))
  | [], b, j => by simp [shV]
  | none :: l, b, 0 => by simp [shV]
  | some none :: l, b, 0 => by simp [shV]
  | some (some r) :: l, b, 0 => by simp [shV]
  | none :: l, b, j + 1 => by
    have h := shV_get (E := E) (σ := σ) (k := k) l (b + 1) j
    simp only [shV, List.getElem?_cons_succ]
    rw [h, show b + 1 + j = b + (j + 1) by omega]
  | some none :: l, b, j + 1 => by
    have h := shV_get (E := E) (σ := σ) (k := k) l (b + 1) j
    simp only [shV, List.getElem?_cons_succ]
    rw [h, show b + 1 + j = b + (j + 1) by omega]
  | some (some r) :: l, b, j + 1 => by
    have h := shV_get (E := E) (σ := σ) (k := k) l (b + 1) j
    simp only [shV, List.getElem?_cons_succ]
    rw [h, show b + 1 + j = b + (j + 1) by omega]
theorem shV_len {E : En} {σ : St} {k : Nat} : ∀ (fs : List (Option (Option Nat))) (b : Nat), (shV E σ k b fs).length = fs.length
  | [], b => rfl
  | none :: l, b => by simp [shV, shV_len l]
  | some none :: l, b => by simp [shV, shV_len l]
  | some (some r) :: l, b => by simp [shV, shV_len l]
theorem shV_set {E : En} {σ : St} {k : Nat} {fs : List (Option (Option Nat))} {j : Nat} {v : Int32} (h : fs[j]? = some none) : (shV E σ k 0 fs).set j (.int v) = shV E (pF σ k j v) k 0 fs := by
  apply List.ext_getElem?
  intro i
  by_cases hi : i = j
  · subst hi
    rw [List.getElem?_set_self (by rw [shV_len]; exact (List.getElem?_eq_some_iff.mp h).1), shV_get, h]
    simp [gF, pF, up2]
  · rw [List.getElem?_set_ne (Ne.symm hi), shV_get, shV_get]
    cases hx : fs[i]? with
    | none => rfl
    | some x =>
      cases x with
      | none => simp [gF, pF, up2, hi]
      | some y => cases y <;> rfl
theorem shV_off {E : En} {σ σ' : St} {k : Nat} (h : ∀ j, gF σ' k j = gF σ k j) : ∀ (fs : List (Option (Option Nat))) (b : Nat), shV E σ' k b fs = shV E σ k b fs
  | [], b => rfl
  | none :: l, b => by simp [shV, shV_off h l, h]
  | some none :: l, b => by simp [shV, shV_off h l]
  | some (some r) :: l, b => by simp [shV, shV_off h l]
theorem shE_off {E : En} {σ σ' : St} {k : Nat} (h : ∀ j, gF σ' k j = gF σ k j) (h2 : gA σ' k = gA σ k) (h3 : gL σ' k = gL σ k) (c : Sh) : shE E σ' k c = shE E σ k c := by
  rcases c with ⟨ci, fs⟩ | ⟨t, n, rows⟩
  · simp only [shE, shV_off h]
  · simp only [shE, shA, h2, h3]
/-- the addresses that may be written -/
def Aw (E : En) (SH : SHT) : Nat → Prop := fun q => ∃ k, k < SH.1.length ∧ E.1 k = q
def EOK (E : En) (SH : SHT) : Prop := ∀ i j, i < SH.1.length → j < SH.1.length → E.1 i = E.1 j → i = j
theorem wd_D {E : En} {SH : SHT} (h : EOK E SH) (σ : St) : va_D (Aw E SH) (wd E SH σ) := by
  refine ⟨fun i j p q hi hj e => ?_, fun k q hk => ?_⟩
  · obtain ⟨c, h1, rfl⟩ := wd_get' hi
    obtain ⟨c', h2, rfl⟩ := wd_get' hj
    exact h i j (List.getElem?_eq_some_iff.mp h1).1 (List.getElem?_eq_some_iff.mp h2).1 e
  · obtain ⟨c, h1, rfl⟩ := wd_get' hk
    exact ⟨k, (List.getElem?_eq_some_iff.mp h1).1, rfl⟩
/-- the tables' words that stay in a call -/
def TB : List Cond := lw_tbl.filter goodWord
theorem TB_of {w : Cond} (h : w ∈ lw_tbl) (hg : goodWord w = true) : w ∈ TB := List.mem_filter.mpr ⟨h, hg⟩
theorem TB_t {w : Cond} (i : Nat) (h : tables_1[i]? = some w) (hg : goodWord w = true) : w ∈ TB := TB_of (List.mem_append_right _ (List.mem_of_getElem? h)) hg
theorem TB_p {w : Cond} (i : Nat) (h : (k2_sels lw_privs)[i]? = some w) (hg : goodWord w = true) : w ∈ TB := TB_of (List.mem_append_left _ (List.mem_of_getElem? h)) hg
theorem TB_good : GoodIn TB TB := fun w h => ⟨h, good_of_word (List.mem_filter.mp h).2⟩
/-! what is known at every start: classes, static arrays, String constants -/
def stn (i : Nat) : String := if i = 0 then "KIND_ABOVE" else if i = 1 then "LAW_MOST" else if i = 2 then "LAW_AT_FIRST" else "BODIES"
def tabL (i : Nat) : List Int32 := if i = 0 then [-1, 0, 0, 1, 2, 0] else if i = 1 then [9, 9, 50, 99] else if i = 2 then [2, 3, 20, 20] else [10, 11, 12, 13, 10, 20, 12, 13, 30, 11, 12, 31, 51, 20, 50, 13, 40, 41, 12, 31, 10, 11, 61, 60]
def stV (i j : Nat) : Int32 := (tabL i).getD j 0
def strK (i : Nat) : Nat := ([129, 131, 133, 135, 137, 139, 141, 143, 145, 147, 96, 98, 100, 47, 106, 70] : List Nat).getD i 0
def strT (i : Nat) : String := (["engineer", "doubter", "expert", "dowser", "drunkard", "sworn", "seep", "bog", "drink", "spring", "at", "sure", "sense", "height", "is", "water"] : List String).getD i ""
def strB : List (List Int32) := [[101, 110, 103, 105, 110, 101, 101, 114], [100, 111, 117, 98, 116, 101, 114], [101, 120, 112, 101, 114, 116], [100, 111, 119, 115, 101, 114], [100, 114, 117, 110, 107, 97, 114, 100], [115, 119, 111, 114, 110], [115, 101, 101, 112], [98, 111, 103], [100, 114, 105, 110, 107], [115, 112, 114, 105, 110, 103], [97, 116], [115, 117, 114, 101], [115, 101, 110, 115, 101], [104, 101, 105, 103, 104, 116], [105, 115], [119, 97, 116, 101, 114]]
def strN : List Nat := [8, 7, 6, 6, 8, 5, 4, 3, 5, 6, 2, 4, 5, 6, 2, 5]
/-- the links between nest mates -/
def NW : List Cond := [.fieldLinkNest "SpringOaths$Moor" 43 "SpringOaths" "LAW_AT_FIRST" "[I" "SpringOaths", .fieldLinkNest "SpringOaths$Tape" 83 "SpringOaths" "LAW_MOST" "[I" "SpringOaths", .fieldLinkNest "SpringOaths$Acting" 37 "SpringOaths" "BODIES" "[I" "SpringOaths", .methodLinkNest "SpringOaths" 24 ⟨"SpringOaths$Tape", "<init>", "()V"⟩ "SpringOaths", .methodLinkNest "SpringOaths" 57 ⟨"SpringOaths$Acting", "<init>", "()V"⟩ "SpringOaths", .methodLinkNest "SpringOaths$Moor" 132 ⟨"SpringOaths", "heldSure", "(I)I"⟩ "SpringOaths"]
theorem NW_warm {s U : State} (hW : s.WarmedH U.vm) {w : Cond} (hw : w ∈ NW) (h : va_Nw w s) : va_Nw w U := by
  simp only [NW, List.mem_cons, List.not_mem_nil, or_false] at hw
  rcases hw with rfl | rfl | rfl | rfl | rfl | rfl
  · exact va_Nw.warmF hW h
  · exact va_Nw.warmF hW h
  · exact va_Nw.warmF hW h
  · exact va_Nw.warmM hW h
  · exact va_Nw.warmM hW h
  · exact va_Nw.warmM hW h
theorem NW_tabs {w : Cond} (hw : w ∈ NW) : w.onTables = true := by
  simp only [NW, List.mem_cons, List.not_mem_nil, or_false] at hw
  rcases hw with rfl | rfl | rfl | rfl | rfl | rfl <;> rfl
/-- the known part of a start: heap H, tables of U, nothing of it among the cells A -/
def Gk (E : En) (X : Nat × (Nat → Int32)) (A : Nat → Prop) (U : State) (H : Heap) : Prop :=
  va_K E.2.1 vwCl (tyl E) U ∧
  (∀ i, i < 4 → va_Z "SpringOaths" (stn i) "[I" (.ref (E.1 (1000 + i))) A U H ∧ va_T .int (E.1 (1000 + i)) (tabL i).length (fun j => .int (stV i j)) A U H) ∧
  va_Z "java/lang/String" "COMPACT_STRINGS" "Z" (.int 1) A U H ∧
  (va_Z "jdk/internal/util/Preconditions" "SIOOBE_FORMATTER" "Ljava/util/function/BiFunction;" .null A U H ∨ va_Z "jdk/internal/util/Preconditions" "SIOOBE_FORMATTER" "Ljava/util/function/BiFunction;" (.ref (E.1 4000)) A U H) ∧
  vk_S 16 strN strB (fun i => E.1 (2000 + i)) (fun i => E.1 (3000 + i)) A U H ∧
  (∀ i, i < 16 → vk_R "SpringOaths$Tape" (strK i) (strT i) (E.1 (2000 + i)) U) ∧
  (∀ w ∈ NW, va_Nw w U) ∧
  va_T .int (E.1 5000) X.1 (fun j => .int (X.2 j)) A U H
theorem Gk.move {E : En} {X : Nat × (Nat → Int32)} {A : Nat → Prop} {u U : State} {H : Heap} (hvm : u.vm.Alike U.vm) (hR : ∀ i, i < 16 → vk_R "SpringOaths$Tape" (strK i) (strT i) (E.1 (2000 + i)) u → vk_R "SpringOaths$Tape" (strK i) (strT i) (E.1 (2000 + i)) U) (hN : ∀ w ∈ NW, va_Nw w u → va_Nw w U) (h : Gk E X A u H) : Gk E X A U H := by
  obtain ⟨h1, h2, h3, h4, h5, h6, h7, h8⟩ := h
  exact ⟨va_K.moved hvm h1, fun i hi => ⟨va_Z.moved hvm (h2 i hi).1, va_T.moved hvm (h2 i hi).2⟩, va_Z.moved hvm h3, h4.imp (va_Z.moved hvm) (va_Z.moved hvm), vk_S.moved hvm h5, fun i hi => hR i hi (h6 i hi), fun w hw => hN w hw (h7 w hw), va_T.moved hvm h8⟩
theorem Gk.warm {E : En} {X : Nat × (Nat → Int32)} {A : Nat → Prop} {s U : State} {H : Heap} (hW : s.WarmedH U.vm) (h : Gk E X A s H) : Gk E X A U H := Gk.move hW.alike (fun _ _ q => vk_R.warm hW q) (fun _ hw q => NW_warm hW hw q) h
theorem Gk.same {E : En} {X : Nat × (Nat → Int32)} {A : Nat → Prop} {u U : State} {H : Heap} (hv : U.vm = u.vm) (h : Gk E X A u H) : Gk E X A U H := Gk.move (by rw [hv]; exact Vm.Alike.refl _) (fun _ _ q => vk_R.same hv q) (fun _ hw q => va_Nw.same (NW_tabs hw) hv.symm q) h
theorem Gk.kept {E : En} {X : Nat × (Nat → Int32)} {A : Nat → Prop} {U : State} {H H1 : Heap} (hq : ∀ a : Nat, a < H.size → ¬ A a → H1[a]? = H[a]?) (h : Gk E X A U H) : Gk E X A U H1 := by
  obtain ⟨h1, h2, h3, h4, h5, h6, h7, h8⟩ := h
  exact ⟨h1, fun i hi => ⟨(h2 i hi).1.kept hq, (h2 i hi).2.kept hq⟩, h3.kept hq, h4.imp (fun q => q.kept hq) (fun q => q.kept hq), h5.kept hq, h6, h7, h8.kept hq⟩
theorem Gk.narrow {E : En} {X : Nat × (Nat → Int32)} {A B : Nat → Prop} {U : State} {H : Heap} (hAB : ∀ q, B q → A q) (h : Gk E X A U H) : Gk E X B U H := by
  obtain ⟨h1, h2, h3, h4, h5, h6, h7, h8⟩ := h
  exact ⟨h1, fun i hi => ⟨(h2 i hi).1.narrow hAB, (h2 i hi).2.narrow hAB⟩, h3.narrow hAB, h4.imp (fun q => q.narrow hAB) (fun q => q.narrow hAB), h5.narrow hAB, h6, h7, h8.narrow hAB⟩
/-- a method: its class, its code, its locals, its answer's type -/
abbrev MC : Type := String × ByteArray × Nat × Option FieldType
def cv (E : En) (v : Value) : Value := match v with
  | .ref k => .ref (E.1 k)
  | w => w
def cvs (E : En) (l : List Value) : List Value := l.map (cv E)
def cvL (E : En) (l : List (Nat × Value)) : List (Nat × Value) := l.map (fun q => (q.1, cv E q.2))
def rmd (d : Nat) : Room := { frames := d, cells := 0, slots := 0, locals := 200 * d }
/-- what a walk of a method has of its start -/
def Cx (M : MC) (d : Nat) (SH : SHT) (p : Program) (R : Room) (s : State) (m : MethodId) (args : Array Value) (meth : Method) (c : Code) (E : En) : Prop :=
  p.tables.exec = Jvm.exec ∧ c.code = M.2.1 ∧ c.maxLocals = M.2.2.1 ∧ s.vm.findClass M.1 = some m.cls ∧ (∀ w ∈ TB, w.before args s = true) ∧ EOK E SH ∧ Gk E SH.2 (Aw E SH) s s.heap ∧ d ≤ R.frames ∧ 200 * d ≤ R.locals
/-- the row that ends a method with an answer -/
def RetI (M : MC) (pc : Nat) (vr : Option Value) : Prop := match vr with
  | none => decode M.2.1 pc = .ok (.return_, 1) ∧ M.2.2.2 = none
  | some (.int v) => decode M.2.1 pc = .ok (.ireturn, 1) ∧ ∃ ty, M.2.2.2 = some ty ∧ narrow ty (.int v) = .int v
  | some (.long _) => decode M.2.1 pc = .ok (.lreturn, 1) ∧ M.2.2.2 = some .long
  | some (.ref _) => decode M.2.1 pc = .ok (.areturn, 1) ∧ ∃ n, M.2.2.2 = some (.object n)
  | _ => False
def VC (M : MC) (d : Nat) (SH : SHT) (vr : Option Value) (σr : St) (pc : Nat) (L : List (Nat × Value)) (st : List Value) (σ : St) : Prop :=
  ∀ (p : Program) (l : Launch) (e : Env) (R : Room) (s : State) (m : MethodId) (args : Array Value) (below : List Frame) (meth : Method) (c : Code) (E : En) (Q : State → Prop) (cells slots : Nat),
    Cx M d SH p R s m args meth c E → cells ≤ R.cells → slots ≤ R.slots →
    (∀ (pc : Nat) (ls : Array Slot) (H : Heap) (locs : List Loc), RetI M pc vr → va_P E.2.1 vwCl (wd E SH σr) H → va_S (Aw E SH) s.heap H locs → W p l e R s m args below meth c H locs cells slots Q (F0 m pc ls (cvs E vr.toList))) →
    ∀ (H : Heap) (locs : List Loc) (ls : Array Slot), va_P E.2.1 vwCl (wd E SH σ) H → va_S (Aw E SH) s.heap H locs → lv_has ls M.2.2.1 (cvL E L) → W p l e R s m args below meth c H locs cells slots Q (F0 m pc ls (cvs E st))
/-- the machine at pc comes to the answer that o has -/
def VF {α : Type} (M : MC) (d : Nat) (SH : SHT) (ι : α → Option Value × St) (pc : Nat) (L : List (Nat × Value)) (st : List Value) (σ : St) (o : Option α) : Prop :=
  ∀ z, o = some z → VC M d SH (ι z).1 (ι z).2 pc L st σ
def jI (q : Int32 × St) : Option Value × St := (some (.int q.1), q.2)
def jL (q : Int64 × St) : Option Value × St := (some (.long q.1), q.2)
def jR (q : Nat × St) : Option Value × St := (some (.ref q.1), q.2)
def jV (q : St) : Option Value × St := (none, q)
def jP (σ : St) (q : Int32) : Option Value × St := (some (.int q), σ)
def jQ (σ : St) (q : Int64) : Option Value × St := (some (.long q), σ)
def jS (σ : St) (q : Nat) : Option Value × St := (some (.ref q), σ)
def jU (σ : St) (_ : Unit) : Option Value × St := (none, σ)
def ib (i : Int32) (n : Nat) : Bool := decide (¬ (i < 0 ∨ n ≤ i.toNatClampNeg))
def ix (i : Int32) : Nat := i.toNatClampNeg
theorem ib_in {i : Int32} {n : Nat} (h : ib i n = true) : vp_in i n := (of_decide_eq_true h : ¬ (i < 0 ∨ n ≤ i.toNatClampNeg))
def gd {α : Type} (b : Bool) (o : Option α) : Option α := if b = true then o else none
def bn {α β : Type} (a : α) (f : α → β) : β := f a
def lkp (L : List (Nat × Value)) (i : Nat) : Option Value := (L.find? (fun q => q.1 == i)).map (fun q => q.2)
def lst1 (L : List (Nat × Value)) (i : Nat) (v : Value) : List (Nat × Value) := (i, v) :: L.filter (fun q => !(q.1 == i) && !(q.1 + 1 == i && q.2.category == 2))
def lst2 (L : List (Nat × Value)) (i : Nat) (v : Value) : List (Nat × Value) := (i, v) :: L.filter (fun q => !(q.1 == i) && (!(q.1 == i + 1) && !(q.1 + 1 == i && q.2.category == 2)))
theorem cv_cat (E : En) (v : Value) : (cv E v).category = v.category := by cases v <;> rfl
theorem lkp_at {E : En} {ls : Array Slot} {nL : Nat} {L : List (Nat × Value)} (h : lv_has ls nL (cvL E L)) {i : Nat} {v : Value} (hk : lkp L i = some v) : ls[i]? = some (.val (cv E v)) := by
  unfold lkp at hk
  cases hf : L.find? (fun q => q.1 == i) with
  | none => rw [hf] at hk; cases hk
  | some q =>
    rw [hf] at hk
    have hm := List.mem_of_find?_eq_some hf
    have hp := List.find?_some hf
    have he : q.2 = v := Option.some.inj hk
    have hi : q.1 = i := by simpa using hp
    have := h.2.2 (q.1, cv E q.2) (List.mem_map.mpr ⟨q, hm, rfl⟩)
    rw [hi, he] at this
    exact this
theorem lst1_cv (E : En) (L : List (Nat × Value)) (i : Nat) (v : Value) : (i, cv E v) :: (cvL E L).filter (fun q => !(q.1 == i) && !(q.1 + 1 == i && q.2.category == 2)) = cvL E (lst1 L i v) := by
  unfold lst1 cvL
  rw [List.map_cons, List.filter_map]
  congr 2
  apply List.filter_congr
  intro q _
  simp [cv_cat]
theorem lst2_cv (E : En) (L : List (Nat × Value)) (i : Nat) (v : Value) : (i, cv E v) :: (cvL E L).filter (fun q => !(q.1 == i) && (!(q.1 == i + 1) && !(q.1 + 1 == i && q.2.category == 2))) = cvL E (lst2 L i v) := by
  unfold lst2 cvL
  rw [List.map_cons, List.filter_map]
  congr 2
  apply List.filter_congr
  intro q _
  simp [cv_cat]
theorem lv_less {E : En} {ls : Array Slot} {nL : Nat} {L L' : List (Nat × Value)} (h : lv_has ls nL (cvL E L)) (hl : ∀ q ∈ L', q ∈ L) : lv_has ls nL (cvL E L') := by
  refine ⟨h.1, h.2.1, fun q hq => ?_⟩
  obtain ⟨x, hx, rfl⟩ := List.mem_map.mp hq
  exact h.2.2 _ (List.mem_map.mpr ⟨x, hl x hx, rfl⟩)
def GF (own : String) (idx ci j : Nat) : Prop := ∃ (C : String) (T : u_T) (N : Nat), vwCl[ci]? = some (C, T, N) ∧ (∀ w ∈ u_ws C T N, w ∈ TB) ∧ j < N ∧ Cond.fieldLink own idx (T j).1 (T j).2.1 (T j).2.2.1 ∈ TB
def GP (own : String) (idx ci j : Nat) (ty : FieldType) : Prop := ∃ (C : String) (T : u_T) (N : Nat) (ty0 : Nat → FieldType), vwCl[ci]? = some (C, T, N) ∧ (∀ w ∈ u_ws C T N, w ∈ TB) ∧ j < N ∧ Cond.fieldLink own idx (T j).1 (T j).2.1 (T j).2.2.1 ∈ TB ∧ (∀ k, k < N → parseFieldDescriptor (T k).2.2.1 = some (ty0 k)) ∧ (∀ a, a < N → ∀ b, b < N → a ≠ b → (T a).2.1 ≠ (T b).2.1) ∧ (T j).2.2.2 = false ∧ parseFieldDescriptor (T j).2.2.1 = some ty
def GCopy (own : String) (idx : Nat) : Prop := Cond.methodLink own idx arraycopyName ∈ TB ∧ Cond.native arraycopyName ∈ TB ∧ Cond.static arraycopyName ∈ TB ∧ Cond.initialized "java/lang/System" ∈ TB
def GS (own : String) (idx i : Nat) : Prop := i < 4 ∧ (Cond.fieldLink own idx "SpringOaths" (stn i) "[I" ∈ TB ∨ ∃ host, Cond.fieldLinkNest own idx "SpringOaths" (stn i) "[I" host ∈ NW)
def GC (y : MethodName) (My : MC) (n : Nat) : Prop := Cond.code y My.2.1 My.2.2.1 My.2.2.2 ∈ TB ∧ Cond.initialized y.cls ∈ TB ∧ y.cls ≠ "java/lang/invoke/MethodHandle" ∧ y.cls ≠ "java/lang/invoke/VarHandle" ∧ (parseMethodDescriptor y.desc).map (fun d => d.parameters.length) = some n ∧ My.2.2.1 ≤ 100
def GV (own : String) (idx : Nat) (y : MethodName) (My : MC) (n : Nat) : Prop := GC y My n ∧ Cond.methodLink own idx y ∈ TB ∧ Cond.instanceMethod y ∈ TB ∧ Cond.selects y.cls y y ∈ TB
def GT (own : String) (idx : Nat) (y : MethodName) (My : MC) (n : Nat) : Prop := GC y My n ∧ Cond.static y ∈ TB ∧ (Cond.methodLink own idx y ∈ TB ∨ ∃ host, Cond.methodLinkNest own idx y host ∈ NW)
