/-! MY OWN FRAME: a method is held against a function 'o' over an abstract state; VF says: if o has an answer, the machine comes to it. -/
abbrev St : Type := (Nat → Nat → Int32) × (Nat → Nat → Int32) × (Nat → Nat → Int64)
def up2 {α : Type} (f : Nat → Nat → α) (k i : Nat) (v : α) : Nat → Nat → α := fun a b => if a = k then (if b = i then v else f a b) else f a b
def gF (σ : St) (k j : Nat) : Int32 := σ.1 k j
def gA (σ : St) (k i : Nat) : Int32 := σ.2.1 k i
def gL (σ : St) (k i : Nat) : Int64 := σ.2.2 k i
def pF (σ : St) (k j : Nat) (v : Int32) : St := (up2 σ.1 k j v, σ.2)
def pA (σ : St) (k i : Nat) (v : Int32) : St := (σ.1, up2 σ.2.1 k i v, σ.2.2)
def pL (σ : St) (k i : Nat) (v : Int64) : St := (σ.1, σ.2.1, up2 σ.2.2 k i v)
def cpN (n : Nat) (f g : Nat → Int32) : Nat → Int32 := fun j => if j < n then f j else g j
def pC (σ : St) (k : Nat) (g : Nat → Int32) : St := (σ.1, (fun a => if a = k then g else σ.2.1 a), σ.2.2)
/-- a cell's shape: an object (class, fields: none a number, some none null, some (some r) the cell r) or an array (type, length, the rows of an outer one) -/
abbrev Sh : Type := (Nat × List (Option (Option Nat))) ⊕ (Nat × Nat × List Nat)
/-- the cells' shapes, and the script: its length, its ints -/
abbrev SHT : Type := List Sh × Nat × (Nat → Int32)
abbrev En : Type := (Nat → Nat) × va_G × (Nat → ClassId)
def tyl (E : En) : List (ClassId × FieldType) := [(E.2.2 0, .int), (E.2.2 1, .byte), (E.2.2 2, .char), (E.2.2 3, .long), (E.2.2 4, .array .int), (E.2.2 5, .array .long)]
def shV (E : En) (σ : St) (k : Nat) : Nat → List (Option (Option Nat)) → List Value
  | _, [] => []
  | j, none :: l => .int (gF σ k j) :: shV E σ k (j + 1) l
  | j, some none :: l => .null :: shV E σ k (j + 1) l
  | j, some (some r) :: l => .ref (E.1 r) :: shV E σ k (j + 1) l
def shA (E : En) (σ : St) (k : Nat) (rows : List Nat) (t : Nat) : (Nat → Int32) ⊕ (Nat → Int64) ⊕ (Nat → UInt32) ⊕ (Nat → UInt64) ⊕ (Nat → Option Nat) :=
  if t < 3 then .inl (gA σ k) else if t = 3 then .inr (.inl (gL σ k)) else .inr (.inr (.inr (.inr (fun i => (rows[i]?).map E.1))))
def shE (E : En) (σ : St) (k : Nat) (c : Sh) : va_E := match c with
  | .inl (ci, fs) => .inr (ci, shV E σ k 0 fs)
  | .inr (t, n, rows) => .inl (E.2.2 t, n, shA E σ k rows t)
def wdF (E : En) (σ : St) : Nat → List Sh → va_W
  | _, [] => []
  | k, c :: l => (E.1 k, shE E σ k c) :: wdF E σ (k + 1) l
def wd (E : En) (SH : SHT) (σ : St) : va_W := wdF E σ 0 SH.1
theorem wdF_get (E : En) (σ : St) : ∀ (SH : List Sh) (b k : Nat), (wdF E σ b SH)[k]? = (SH[k]?).map (fun c => (E.1 (b + k), shE E σ (b + k) c))
  | [], b, k => by simp [wdF]
  | c :: l, b, 0 => by simp [wdF]
  | c :: l, b, k + 1 => by
    have h := wdF_get E σ l (b + 1) k
    simp only [wdF, List.getElem?_cons_succ]
    rw [h, show b + 1 + k = b + (k + 1) by omega]
theorem wd_get {E : En} {σ : St} {SH : SHT} {k : Nat} {c : Sh} (h : SH.1[k]? = some c) : (wd E SH σ)[k]? = some (E.1 k, shE E σ k c) := by
  unfold wd
  rw [wdF_get, h]
  simp
theorem wd_get' {E : En} {σ : St} {SH : SHT} {k : Nat} {q : Nat × va_E} (h : (wd E SH σ)[k]? = some q) : ∃ c, SH.1[k]? = some c ∧ q = (E.1 k, shE E σ k c) := by
  unfold wd at h
  rw [wdF_get] at h
  cases hc : SH.1[k]? with
  | none => rw [hc] at h; cases h
  | some c =>
    rw [hc] at h
    simp at h
    exact ⟨c, rfl, h.symm⟩
theorem wd_len (E : En) (SH : SHT) (σ : St) : (wd E SH σ).length = SH.1.length := by
  have : ∀ (S : List Sh) (b : Nat), (wdF E σ b S).length = S.length := by
    intro S
    induction S with
    | nil => intro b; rfl
    | cons c l ih => intro b; simp [wdF, ih]
  exact this SH.1 0
theorem wd_set {E : En} {σ σ' : St} {SH : SHT} {k : Nat} {c : Sh} (hc : SH.1[k]? = some c) (h : ∀ j c', j ≠ k → shE E σ' j c' = shE E σ j c') : (wd E SH σ).set k (E.1 k, shE E σ' k c) = wd E SH σ' := by
  apply List.ext_getElem?
  intro j
  by_cases hj : j = k
  · subst hj
    rw [List.getElem?_set_self (by rw [wd_len]; exact (List.getElem?_eq_some_iff.mp hc).1), wd_get hc]
  · rw [List.getElem?_set_ne (Ne.symm hj)]
    unfold wd
    rw [wdF_get, wdF_get]
    cases SH.1[j]? with
    | none => rfl
    | some c' => simp [h j c' hj]
theorem shV_get {E : En} {σ : St} {k : Nat} : ∀ (fs : List (Option (Option Nat))) (b j : Nat), (shV E σ k b fs)[j]? = (fs[j]?).map (fun x => match x with | none => Value.int (gF σ k (b + j)) | some none => .null | some (some r) => .ref (E.1 r))
  | [], b, j => by simp [shV]
  | none :: l, b, 0 => by simp [shV]
  | some none :: l, b, 0 => by simp [shV]
  | some (some r) :: l, b, 0 => by simp [shV]
  | none :: l, b, j + 1 => by
    have h := shV_get (E := E) (σ := σ) (k := k) l (b + 1) j
    simp only [shV, List.getElem?_cons_succ]
    rw [h, show b + 1 + j = b + (j + 1) by omega]
  | some none :: l, b, j + 1 => by
    have h := shV_get (E := E) (σ := σ) (k := k) l (b + 1) j
    simp only [shV, List.getElem?_cons_succ]
    rw [h, show b + 1 + j = b + (j + 1) by omega]
  | some (some r) :: l, b, j + 1 => by
    have h := shV_get (E := E) (σ := σ) (k := k) l (b + 1) j
    simp only [shV, List.getElem?_cons_succ]
    rw [h, show b + 1 + j = b + (j + 1) by omega]
theorem shV_len {E : En} {σ : St} {k : Nat} : ∀ (fs : List (Option (Option Nat))) (b : Nat), (shV E σ k b fs).length = fs.length
  | [], b => rfl
  | none :: l, b => by simp [shV, shV_len l]
  | some none :: l, b => by simp [shV, shV_len l]
  | some (some r) :: l, b => by simp [shV, shV_len l]
theorem shV_set {E : En} {σ : St} {k : Nat} {fs : List (Option (Option Nat))} {j : Nat} {v : Int32} (h : fs[j]? = some none) : (shV E σ k 0 fs).set j (.int v) = shV E (pF σ k j v) k 0 fs := by
  apply List.ext_getElem?
  intro i
  by_cases hi : i = j
  · subst hi
    rw [List.getElem?_set_self (by rw [shV_len]; exact (List.getElem?_eq_some_iff.mp h).1), shV_get, h]
    simp [gF, pF, up2]
  · rw [List.getElem?_set_ne (Ne.symm hi), shV_get, shV_get]
    cases hx : fs[i]? with
    | none => rfl
    | some x =>
      cases x with
      | none => simp [gF, pF, up2, hi]
      | some y => cases y <;> rfl
theorem shV_off {E : En} {σ σ' : St} {k : Nat} (h : ∀ j, gF σ' k j = gF σ k j) : ∀ (fs : List (Option (Option Nat))) (b : Nat), shV E σ' k b fs = shV E σ k b fs
  | [], b => rfl
  | none :: l, b => by simp [shV, shV_off h l, h]
  | some none :: l, b => by simp [shV, shV_off h l]
  | some (some r) :: l, b => by simp [shV, shV_off h l]
theorem shE_off {E : En} {σ σ' : St} {k : Nat} (h : ∀ j, gF σ' k j = gF σ k j) (h2 : gA σ' k = gA σ k) (h3 : gL σ' k = gL σ k) (c : Sh) : shE E σ' k c = shE E σ k c := by
  rcases c with ⟨ci, fs⟩ | ⟨t, n, rows⟩
  · simp only [shE, shV_off h]
  · simp only [shE, shA, h2, h3]
/-- the addresses that may be written -/
def Aw (E : En) (SH : SHT) : Nat → Prop := fun q => ∃ k, k < SH.1.length ∧ E.1 k = q
def EOK (E : En) (SH : SHT) : Prop := ∀ i j, i < SH.1.length → j < SH.1.length → E.1 i = E.1 j → i = j
theorem wd_D {E : En} {SH : SHT} (h : EOK E SH) (σ : St) : va_D (Aw E SH) (wd E SH σ) := by
  refine ⟨fun i j p q hi hj e => ?_, fun k q hk => ?_⟩
  · obtain ⟨c, h1, rfl⟩ := wd_get' hi
    obtain ⟨c', h2, rfl⟩ := wd_get' hj
    exact h i j (List.getElem?_eq_some_iff.mp h1).1 (List.getElem?_eq_some_iff.mp h2).1 e
  · obtain ⟨c, h1, rfl⟩ := wd_get' hk
    exact ⟨k, (List.getElem?_eq_some_iff.mp h1).1, rfl⟩
/-- the tables' words that stay in a call -/
def TB : List Cond := lw_tbl.filter goodWord
theorem TB_of {w : Cond} (h : w ∈ lw_tbl) (hg : goodWord w = true) : w ∈ TB := List.mem_filter.mpr ⟨h, hg⟩
theorem TB_t {w : Cond} (i : Nat) (h : tables_1[i]? = some w) (hg : goodWord w = true) : w ∈ TB := TB_of (List.mem_append_right _ (List.mem_of_getElem? h)) hg
theorem TB_p {w : Cond} (i : Nat) (h : (k2_sels lw_privs)[i]? = some w) (hg : goodWord w = true) : w ∈ TB := TB_of (List.mem_append_left _ (List.mem_of_getElem? h)) hg
theorem TB_good : GoodIn TB TB := fun w h => ⟨h, good_of_word (List.mem_filter.mp h).2⟩
/-! what is known at every start: classes, static arrays, String constants -/
def stn (i : Nat) : String := if i = 0 then "KIND_ABOVE" else if i = 1 then "LAW_MOST" else if i = 2 then "LAW_AT_FIRST" else "BODIES"
def tabL (i : Nat) : List Int32 := if i = 0 then [-1, 0, 0, 1, 2, 0] else if i = 1 then [9, 9, 50, 99] else if i = 2 then [2, 3, 20, 20] else [10, 11, 12, 13, 10, 20, 12, 13, 30, 11, 12, 31, 51, 20, 50, 13, 40, 41, 12, 31, 10, 11, 61, 60]
def stV (i j : Nat) : Int32 := (tabL i).getD j 0

def strK (i : Nat) : Nat := ([129, 131, 133, 135, 137, 139, 141, 143, 145, 147, 96, 98, 100, 47, 106, 70] : List Nat).getD i 0
def strT (i : Nat) : String := (["engineer", "doubter", "expert", "dowser", "drunkard", "sworn", "seep", "bog", "drink", "spring", "at", "sure", "sense", "height", "is", "water"] : List String).getD i ""
def strB : List (List Int32) := [[101, 110, 103, 105, 110, 101, 101, 114], [100, 111, 117, 98, 116, 101, 114], [101, 120, 112, 101, 114, 116], [100, 111, 119, 115, 101, 114], [100, 114, 117, 110, 107, 97, 114, 100], [115, 119, 111, 114, 110], [115, 101, 101, 112], [98, 111, 103], [100, 114, 105, 110, 107], [115, 112, 114, 105, 110, 103], [97, 116], [115, 117, 114, 101], [115, 101, 110, 115, 101], [104, 101, 105, 103, 104, 116], [105, 115], [119, 97, 116, 101, 114]]
def strN : List Nat := [8, 7, 6, 6, 8, 5, 4, 3, 5, 6, 2, 4, 5, 6, 2, 5]
/-- the links between nest mates -/
def NW : List Cond := [.fieldLinkNest "SpringOaths$Moor" 43 "SpringOaths" "LAW_AT_FIRST" "[I" "SpringOaths", .fieldLinkNest "SpringOaths$Tape" 83 "SpringOaths" "LAW_MOST" "[I" "SpringOaths", .fieldLinkNest "SpringOaths$Acting" 40 "SpringOaths" "BODIES" "[I" "SpringOaths", .methodLinkNest "SpringOaths" 24 ⟨"SpringOaths$Tape", "<init>", "()V"⟩ "SpringOaths", .methodLinkNest "SpringOaths" 57 ⟨"SpringOaths$Acting", "<init>", "()V"⟩ "SpringOaths", .methodLinkNest "SpringOaths$Moor" 132 ⟨"SpringOaths", "heldSure", "(I)I"⟩ "SpringOaths"]
theorem NW_warm {s U : State} (hW : s.WarmedH U.vm) {w : Cond} (hw : w ∈ NW) (h : va_Nw w s) : va_Nw w U := by
  simp only [NW, List.mem_cons, List.not_mem_nil, or_false] at hw
  rcases hw with rfl | rfl | rfl | rfl | rfl | rfl
  · exact va_Nw.warmF hW h
  · exact va_Nw.warmF hW h
  · exact va_Nw.warmF hW h
  · exact va_Nw.warmM hW h
  · exact va_Nw.warmM hW h
  · exact va_Nw.warmM hW h
theorem NW_tabs {w : Cond} (hw : w ∈ NW) : w.onTables = true := by
  simp only [NW, List.mem_cons, List.not_mem_nil, or_false] at hw
  rcases hw with rfl | rfl | rfl | rfl | rfl | rfl <;> rfl
/-- the known part of a start: heap H, tables of U, nothing of it among the cells A -/
def Gk (E : En) (X : Nat × (Nat → Int32)) (A : Nat → Prop) (U : State) (H : Heap) : Prop :=
  va_K E.2.1 vwCl (tyl E) U ∧
  (∀ i, i < 4 → va_Z "SpringOaths" (stn i) "[I" (.ref (E.1 (1000 + i))) A U H ∧ va_T .int (E.1 (1000 + i)) (tabL i).length (fun j => .int (stV i j)) A U H) ∧
  va_Z "java/lang/String" "COMPACT_STRINGS" "Z" (.int 1) A U H ∧
  va_Zq "jdk/internal/util/Preconditions" "SIOOBE_FORMATTER" "Ljava/util/function/BiFunction;" A U H ∧
  vk_S 16 strN strB (fun i => E.1 (2000 + i)) (fun i => E.1 (3000 + i)) A U H ∧
  (∀ i, i < 16 → vk_R "SpringOaths$Tape" (strK i) (strT i) (E.1 (2000 + i)) U) ∧
  (∀ w ∈ NW, va_Nw w U) ∧
  va_T .int (E.1 5000) X.1 (fun j => .int (X.2 j)) A U H
theorem Gk.move {E : En} {X : Nat × (Nat → Int32)} {A : Nat → Prop} {u U : State} {H : Heap} (hvm : u.vm.Alike U.vm) (hR : ∀ i, i < 16 → vk_R "SpringOaths$Tape" (strK i) (strT i) (E.1 (2000 + i)) u → vk_R "SpringOaths$Tape" (strK i) (strT i) (E.1 (2000 + i)) U) (hN : ∀ w ∈ NW, va_Nw w u → va_Nw w U) (h : Gk E X A u H) : Gk E X A U H := by
  obtain ⟨h1, h2, h3, h4, h5, h6, h7, h8⟩ := h
  exact ⟨va_K.moved hvm h1, fun i hi => ⟨va_Z.moved hvm (h2 i hi).1, va_T.moved hvm (h2 i hi).2⟩, va_Z.moved hvm h3, va_Zq.moved hvm h4, vk_S.moved hvm h5, fun i hi => hR i hi (h6 i hi), fun w hw => hN w hw (h7 w hw), va_T.moved hvm h8⟩
theorem Gk.warm {E : En} {X : Nat × (Nat → Int32)} {A : Nat → Prop} {s U : State} {H : Heap} (hW : s.WarmedH U.vm) (h : Gk E X A s H) : Gk E X A U H := Gk.move hW.alike (fun _ _ q => vk_R.warm hW q) (fun _ hw q => NW_warm hW hw q) h
theorem Gk.same {E : En} {X : Nat × (Nat → Int32)} {A : Nat → Prop} {u U : State} {H : Heap} (hv : U.vm = u.vm) (h : Gk E X A u H) : Gk E X A U H := Gk.move (by rw [hv]; exact Vm.Alike.refl _) (fun _ _ q => vk_R.same hv q) (fun _ hw q => va_Nw.same (NW_tabs hw) hv.symm q) h
theorem Gk.kept {E : En} {X : Nat × (Nat → Int32)} {A : Nat → Prop} {U : State} {H H1 : Heap} (hq : ∀ a : Nat, a < H.size → ¬ A a → H1[a]? = H[a]?) (h : Gk E X A U H) : Gk E X A U H1 := by
  obtain ⟨h1, h2, h3, h4, h5, h6, h7, h8⟩ := h
  exact ⟨h1, fun i hi => ⟨(h2 i hi).1.kept hq, (h2 i hi).2.kept hq⟩, h3.kept hq, h4.kept hq, h5.kept hq, h6, h7, h8.kept hq⟩
theorem Gk.narrow {E : En} {X : Nat × (Nat → Int32)} {A B : Nat → Prop} {U : State} {H : Heap} (hAB : ∀ q, B q → A q) (h : Gk E X A U H) : Gk E X B U H := by
  obtain ⟨h1, h2, h3, h4, h5, h6, h7, h8⟩ := h
  exact ⟨h1, fun i hi => ⟨(h2 i hi).1.narrow hAB, (h2 i hi).2.narrow hAB⟩, h3.narrow hAB, h4.narrow hAB, h5.narrow hAB, h6, h7, h8.narrow hAB⟩
/-- a method: its class, its code, its locals, its answer's type -/
abbrev MC : Type := String × ByteArray × Nat × Option FieldType
def cv (E : En) (v : Value) : Value := match v with
  | .ref k => .ref (E.1 k)
  | w => w
def cvs (E : En) (l : List Value) : List Value := l.map (cv E)
def cvL (E : En) (l : List (Nat × Value)) : List (Nat × Value) := l.map (fun q => (q.1, cv E q.2))
def rmd (d : Nat) : Room := { frames := d, cells := 0, slots := 0, locals := 200 * d }
/-- what a walk of a method has of its start -/
def Cx (M : MC) (d : Nat) (SH : SHT) (p : Program) (R : Room) (s : State) (m : MethodId) (args : Array Value) (meth : Method) (c : Code) (E : En) : Prop :=
  p.tables.exec = Jvm.exec ∧ c.code = M.2.1 ∧ c.maxLocals = M.2.2.1 ∧ s.vm.findClass M.1 = some m.cls ∧ (∀ w ∈ TB, w.before args s = true) ∧ EOK E SH ∧ Gk E SH.2 (Aw E SH) s s.heap ∧ d ≤ R.frames ∧ 200 * d ≤ R.locals
/-- the row that ends a method with an answer -/
def RetI (M : MC) (pc : Nat) (vr : Option Value) : Prop := match vr with
  | none => decode M.2.1 pc = .ok (.return_, 1) ∧ M.2.2.2 = none
  | some (.int v) => decode M.2.1 pc = .ok (.ireturn, 1) ∧ ∃ ty, M.2.2.2 = some ty ∧ narrow ty (.int v) = .int v
  | some (.long _) => decode M.2.1 pc = .ok (.lreturn, 1) ∧ M.2.2.2 = some .long
  | some (.ref _) => decode M.2.1 pc = .ok (.areturn, 1) ∧ ∃ n, M.2.2.2 = some (.object n)
  | _ => False
def VC (M : MC) (d : Nat) (SH : SHT) (vr : Option Value) (σr : St) (pc : Nat) (L : List (Nat × Value)) (st : List Value) (σ : St) : Prop :=
  ∀ (p : Program) (l : Launch) (e : Env) (R : Room) (s : State) (m : MethodId) (args : Array Value) (below : List Frame) (meth : Method) (c : Code) (E : En) (Q : State → Prop) (cells slots : Nat),
    Cx M d SH p R s m args meth c E → cells ≤ R.cells → slots ≤ R.slots →
    (∀ (pc : Nat) (ls : Array Slot) (H : Heap) (locs : List Loc), RetI M pc vr → va_P E.2.1 vwCl (wd E SH σr) H → va_S (Aw E SH) s.heap H locs → W p l e R s m args below meth c H locs cells slots Q (F0 m pc ls (cvs E vr.toList))) →
    ∀ (H : Heap) (locs : List Loc) (ls : Array Slot), va_P E.2.1 vwCl (wd E SH σ) H → va_S (Aw E SH) s.heap H locs → lv_has ls M.2.2.1 (cvL E L) → W p l e R s m args below meth c H locs cells slots Q (F0 m pc ls (cvs E st))
/-- the machine at pc comes to the answer that o has -/
def VF {α : Type} (M : MC) (d : Nat) (SH : SHT) (ι : α → Option Value × St) (pc : Nat) (L : List (Nat × Value)) (st : List Value) (σ : St) (o : Option α) : Prop :=
  ∀ z, o = some z → VC M d SH (ι z).1 (ι z).2 pc L st σ
def jI (q : Int32 × St) : Option Value × St := (some (.int q.1), q.2)
def jL (q : Int64 × St) : Option Value × St := (some (.long q.1), q.2)
def jR (q : Nat × St) : Option Value × St := (some (.ref q.1), q.2)
def jV (q : St) : Option Value × St := (none, q)
def jP (σ : St) (q : Int32) : Option Value × St := (some (.int q), σ)
def jQ (σ : St) (q : Int64) : Option Value × St := (some (.long q), σ)
def jS (σ : St) (q : Nat) : Option Value × St := (some (.ref q), σ)
def jU (σ : St) (_ : Unit) : Option Value × St := (none, σ)
def ib (i : Int32) (n : Nat) : Bool := decide (¬ (i < 0 ∨ n ≤ i.toNatClampNeg))
def ix (i : Int32) : Nat := i.toNatClampNeg
theorem ib_in {i : Int32} {n : Nat} (h : ib i n = true) : vp_in i n := (of_decide_eq_true h : ¬ (i < 0 ∨ n ≤ i.toNatClampNeg))
def gd {α : Type} (b : Bool) (o : Option α) : Option α := if b = true then o else none
def bn {α β : Type} (a : α) (f : α → β) : β := f a
def lkp (L : List (Nat × Value)) (i : Nat) : Option Value := (L.find? (fun q => q.1 == i)).map (fun q => q.2)
def lst1 (L : List (Nat × Value)) (i : Nat) (v : Value) : List (Nat × Value) := (i, v) :: L.filter (fun q => !(q.1 == i) && !(q.1 + 1 == i && q.2.category == 2))
def lst2 (L : List (Nat × Value)) (i : Nat) (v : Value) : List (Nat × Value) := (i, v) :: L.filter (fun q => !(q.1 == i) && (!(q.1 == i + 1) && !(q.1 + 1 == i && q.2.category == 2)))
theorem cv_cat (E : En) (v : Value) : (cv E v).category = v.category := by cases v <;> rfl
theorem lkp_at {E : En} {ls : Array Slot} {nL : Nat} {L : List (Nat × Value)} (h : lv_has ls nL (cvL E L)) {i : Nat} {v : Value} (hk : lkp L i = some v) : ls[i]? = some (.val (cv E v)) := by
  unfold lkp at hk
  cases hf : L.find? (fun q => q.1 == i) with
  | none => rw [hf] at hk; cases hk
  | some q =>
    rw [hf] at hk
    have hm := List.mem_of_find?_eq_some hf
    have hp := List.find?_some hf
    have he : q.2 = v := Option.some.inj hk
    have hi : q.1 = i := by simpa using hp
    have := h.2.2 (q.1, cv E q.2) (List.mem_map.mpr ⟨q, hm, rfl⟩)
    rw [hi, he] at this
    exact this
theorem lst1_cv (E : En) (L : List (Nat × Value)) (i : Nat) (v : Value) : (i, cv E v) :: (cvL E L).filter (fun q => !(q.1 == i) && !(q.1 + 1 == i && q.2.category == 2)) = cvL E (lst1 L i v) := by
  unfold lst1 cvL
  rw [List.map_cons, List.filter_map]
  congr 2
  apply List.filter_congr
  intro q _
  simp [cv_cat]
theorem lst2_cv (E : En) (L : List (Nat × Value)) (i : Nat) (v : Value) : (i, cv E v) :: (cvL E L).filter (fun q => !(q.1 == i) && (!(q.1 == i + 1) && !(q.1 + 1 == i && q.2.category == 2))) = cvL E (lst2 L i v) := by
  unfold lst2 cvL
  rw [List.map_cons, List.filter_map]
  congr 2
  apply List.filter_congr
  intro q _
  simp [cv_cat]
theorem lv_less {E : En} {ls : Array Slot} {nL : Nat} {L L' : List (Nat × Value)} (h : lv_has ls nL (cvL E L)) (hl : ∀ q ∈ L', q ∈ L) : lv_has ls nL (cvL E L') := by
  refine ⟨h.1, h.2.1, fun q hq => ?_⟩
  obtain ⟨x, hx, rfl⟩ := List.mem_map.mp hq
  exact h.2.2 _ (List.mem_map.mpr ⟨x, hl x hx, rfl⟩)
section VFS
variable {α : Type} {M : MC} {d : Nat} {SH : SHT} {ι : α → Option Value × St} {pc : Nat} {L : List (Nat × Value)} {st : List Value} {σ : St} {o o1 o2 : Option α}
theorem v_none : VF M d SH ι pc L st σ none := fun z h => by cases h
theorem v_gd {b : Bool} (h : b = true → VF M d SH ι pc L st σ o) : VF M d SH ι pc L st σ (gd b o) := by
  cases b with
  | false => exact v_none
  | true => exact h rfl
/-- fewer known locals, in any order -/
theorem v_sub {L' : List (Nat × Value)} (hl : ∀ q ∈ L', q ∈ L) (k : VF M d SH ι pc L' st σ o) : VF M d SH ι pc L st σ o :=
  fun z hz p l e R s m args below meth c E Q cells slots C hc hs F H locs ls hP hS hL => k z hz p l e R s m args below meth c E Q cells slots C hc hs F H locs ls hP hS (lv_less hL hl)
theorem v_topi {x : Int32} {f : Int32 → Option α} (k : ∀ y, VF M d SH ι pc L (.int y :: st) σ (f y)) : VF M d SH ι pc L (.int x :: st) σ (bn x f) := k x
theorem v_topl {x : Int64} {f : Int64 → Option α} (k : ∀ y, VF M d SH ι pc L (.long y :: st) σ (f y)) : VF M d SH ι pc L (.long x :: st) σ (bn x f) := k x
theorem v_st {f : St → Option α} (k : ∀ y, VF M d SH ι pc L st y (f y)) : VF M d SH ι pc L st σ (bn σ f) := k σ

theorem v_iconst {n : Int} {v : Int32} (hd : decode M.2.1 pc = .ok (.iconst n, 1)) (hv : Int32.ofInt n = v) (k : VF M d SH ι (pc + 1) L (.int v :: st) σ o) : VF M d SH ι pc L (st) σ o :=
  fun z hz p l e R s m args below meth c E Q cells slots C hc hs F H locs ls hP hS hL => lv_iconst C.1 C.2.1 hd hv (k z hz p l e R s m args below meth c E Q cells slots C hc hs F H locs ls hP hS hL)
theorem v_bipush {n : Int} {v : Int32} (hd : decode M.2.1 pc = .ok (.bipush n, 2)) (hv : (Int8.ofInt n).toInt32 = v) (k : VF M d SH ι (pc + 2) L (.int v :: st) σ o) : VF M d SH ι pc L (st) σ o :=
  fun z hz p l e R s m args below meth c E Q cells slots C hc hs F H locs ls hP hS hL => lv_bipush C.1 C.2.1 hd hv (k z hz p l e R s m args below meth c E Q cells slots C hc hs F H locs ls hP hS hL)
theorem v_sipush {n : Int} {v : Int32} (hd : decode M.2.1 pc = .ok (.sipush n, 3)) (hv : (Int16.ofInt n).toInt32 = v) (k : VF M d SH ι (pc + 3) L (.int v :: st) σ o) : VF M d SH ι pc L (st) σ o :=
  fun z hz p l e R s m args below meth c E Q cells slots C hc hs F H locs ls hP hS hL => lv_sipush C.1 C.2.1 hd hv (k z hz p l e R s m args below meth c E Q cells slots C hc hs F H locs ls hP hS hL)
theorem v_lconst {n : Fin 2} {v : Int64} (hd : decode M.2.1 pc = .ok (.lconst n, 1)) (hv : Int64.ofNat (n : Nat) = v) (k : VF M d SH ι (pc + 1) L (.long v :: st) σ o) : VF M d SH ι pc L (st) σ o :=
  fun z hz p l e R s m args below meth c E Q cells slots C hc hs F H locs ls hP hS hL => lv_lconst C.1 C.2.1 hd hv (k z hz p l e R s m args below meth c E Q cells slots C hc hs F H locs ls hP hS hL)
theorem v_iload_n {k0 : Fin 4} {i : Nat} {x : Int32} (hd : decode M.2.1 pc = .ok (.iload_n k0, 1)) (hi : (k0 : Nat) = i) (hx : lkp L i = some (.int x)) (k : VF M d SH ι (pc + 1) L (.int x :: st) σ o) : VF M d SH ι pc L (st) σ o :=
  fun z hz p l e R s m args below meth c E Q cells slots C hc hs F H locs ls hP hS hL => lv_iload_n C.1 C.2.1 hd hi (lkp_at hL hx) (k z hz p l e R s m args below meth c E Q cells slots C hc hs F H locs ls hP hS hL)
theorem v_iload {i : Nat} {x : Int32} (hd : decode M.2.1 pc = .ok (.iload i, 2)) (hx : lkp L i = some (.int x)) (k : VF M d SH ι (pc + 2) L (.int x :: st) σ o) : VF M d SH ι pc L (st) σ o :=
  fun z hz p l e R s m args below meth c E Q cells slots C hc hs F H locs ls hP hS hL => lv_iload C.1 C.2.1 hd (lkp_at hL hx) (k z hz p l e R s m args below meth c E Q cells slots C hc hs F H locs ls hP hS hL)
theorem v_lload_n {k0 : Fin 4} {i : Nat} {x : Int64} (hd : decode M.2.1 pc = .ok (.lload_n k0, 1)) (hi : (k0 : Nat) = i) (hx : lkp L i = some (.long x)) (k : VF M d SH ι (pc + 1) L (.long x :: st) σ o) : VF M d SH ι pc L (st) σ o :=
  fun z hz p l e R s m args below meth c E Q cells slots C hc hs F H locs ls hP hS hL => lv_lload_n C.1 C.2.1 hd hi (lkp_at hL hx) (k z hz p l e R s m args below meth c E Q cells slots C hc hs F H locs ls hP hS hL)
theorem v_lload {i : Nat} {x : Int64} (hd : decode M.2.1 pc = .ok (.lload i, 2)) (hx : lkp L i = some (.long x)) (k : VF M d SH ι (pc + 2) L (.long x :: st) σ o) : VF M d SH ι pc L (st) σ o :=
  fun z hz p l e R s m args below meth c E Q cells slots C hc hs F H locs ls hP hS hL => lv_lload C.1 C.2.1 hd (lkp_at hL hx) (k z hz p l e R s m args below meth c E Q cells slots C hc hs F H locs ls hP hS hL)
theorem v_aload_n {k0 : Fin 4} {i : Nat} {x : Nat} (hd : decode M.2.1 pc = .ok (.aload_n k0, 1)) (hi : (k0 : Nat) = i) (hx : lkp L i = some (.ref x)) (k : VF M d SH ι (pc + 1) L (.ref x :: st) σ o) : VF M d SH ι pc L (st) σ o :=
  fun z hz p l e R s m args below meth c E Q cells slots C hc hs F H locs ls hP hS hL => lv_aload_n C.1 C.2.1 hd hi (lkp_at hL hx) (k z hz p l e R s m args below meth c E Q cells slots C hc hs F H locs ls hP hS hL)
theorem v_aload {i : Nat} {x : Nat} (hd : decode M.2.1 pc = .ok (.aload i, 2)) (hx : lkp L i = some (.ref x)) (k : VF M d SH ι (pc + 2) L (.ref x :: st) σ o) : VF M d SH ι pc L (st) σ o :=
  fun z hz p l e R s m args below meth c E Q cells slots C hc hs F H locs ls hP hS hL => lv_aload C.1 C.2.1 hd (lkp_at hL hx) (k z hz p l e R s m args below meth c E Q cells slots C hc hs F H locs ls hP hS hL)
theorem v_istore_n {k0 : Fin 4} {i : Nat} {x : Int32} {L' : List (Nat × Value)} (hd : decode M.2.1 pc = .ok (.istore_n k0, 1)) (hi : (k0 : Nat) = i) (hn : i < M.2.2.1) (hl : lst1 L i (.int x) = L') (k : VF M d SH ι (pc + 1) L' st σ o) : VF M d SH ι pc L (.int x :: st) σ o :=
  fun z hz p l e R s m args below meth c E Q cells slots C hc hs F H locs ls hP hS hL => lv_istore_n C.1 C.2.1 hd hi hL hn ((lst1_cv E L i (.int x)).trans (by rw [hl])) (fun ls' hL' => k z hz p l e R s m args below meth c E Q cells slots C hc hs F H locs ls' hP hS hL')
theorem v_istore {i : Nat} {x : Int32} {L' : List (Nat × Value)} (hd : decode M.2.1 pc = .ok (.istore i, 2)) (hn : i < M.2.2.1) (hl : lst1 L i (.int x) = L') (k : VF M d SH ι (pc + 2) L' st σ o) : VF M d SH ι pc L (.int x :: st) σ o :=
  fun z hz p l e R s m args below meth c E Q cells slots C hc hs F H locs ls hP hS hL => lv_istore C.1 C.2.1 hd hL hn ((lst1_cv E L i (.int x)).trans (by rw [hl])) (fun ls' hL' => k z hz p l e R s m args below meth c E Q cells slots C hc hs F H locs ls' hP hS hL')
theorem v_lstore_n {k0 : Fin 4} {i : Nat} {x : Int64} {L' : List (Nat × Value)} (hd : decode M.2.1 pc = .ok (.lstore_n k0, 1)) (hi : (k0 : Nat) = i) (hn : i + 1 < M.2.2.1) (hl : lst2 L i (.long x) = L') (k : VF M d SH ι (pc + 1) L' st σ o) : VF M d SH ι pc L (.long x :: st) σ o :=
  fun z hz p l e R s m args below meth c E Q cells slots C hc hs F H locs ls hP hS hL => lv_lstore_n C.1 C.2.1 hd hi hL hn ((lst2_cv E L i (.long x)).trans (by rw [hl])) (fun ls' hL' => k z hz p l e R s m args below meth c E Q cells slots C hc hs F H locs ls' hP hS hL')
theorem v_lstore {i : Nat} {x : Int64} {L' : List (Nat × Value)} (hd : decode M.2.1 pc = .ok (.lstore i, 2)) (hn : i + 1 < M.2.2.1) (hl : lst2 L i (.long x) = L') (k : VF M d SH ι (pc + 2) L' st σ o) : VF M d SH ι pc L (.long x :: st) σ o :=
  fun z hz p l e R s m args below meth c E Q cells slots C hc hs F H locs ls hP hS hL => lv_lstore C.1 C.2.1 hd hL hn ((lst2_cv E L i (.long x)).trans (by rw [hl])) (fun ls' hL' => k z hz p l e R s m args below meth c E Q cells slots C hc hs F H locs ls' hP hS hL')
theorem v_astore_n {k0 : Fin 4} {i : Nat} {x : Nat} {L' : List (Nat × Value)} (hd : decode M.2.1 pc = .ok (.astore_n k0, 1)) (hi : (k0 : Nat) = i) (hn : i < M.2.2.1) (hl : lst1 L i (.ref x) = L') (k : VF M d SH ι (pc + 1) L' st σ o) : VF M d SH ι pc L (.ref x :: st) σ o :=
  fun z hz p l e R s m args below meth c E Q cells slots C hc hs F H locs ls hP hS hL => lv_astore_n C.1 C.2.1 hd hi hL hn ((lst1_cv E L i (.ref x)).trans (by rw [hl])) (fun ls' hL' => k z hz p l e R s m args below meth c E Q cells slots C hc hs F H locs ls' hP hS hL')
theorem v_astore {i : Nat} {x : Nat} {L' : List (Nat × Value)} (hd : decode M.2.1 pc = .ok (.astore i, 2)) (hn : i < M.2.2.1) (hl : lst1 L i (.ref x) = L') (k : VF M d SH ι (pc + 2) L' st σ o) : VF M d SH ι pc L (.ref x :: st) σ o :=
  fun z hz p l e R s m args below meth c E Q cells slots C hc hs F H locs ls hP hS hL => lv_astore C.1 C.2.1 hd hL hn ((lst1_cv E L i (.ref x)).trans (by rw [hl])) (fun ls' hL' => k z hz p l e R s m args below meth c E Q cells slots C hc hs F H locs ls' hP hS hL')
theorem v_iinc {i : Nat} {n : Int} {x v : Int32} {L' : List (Nat × Value)} (hd : decode M.2.1 pc = .ok (.iinc i n, 3)) (hx : lkp L i = some (.int x)) (hv : x + Int32.ofInt n = v) (hn : i < M.2.2.1) (hl : lst1 L i (.int v) = L') (k : VF M d SH ι (pc + 3) L' st σ o) : VF M d SH ι pc L st σ o := by
  intro z hz p l e R s m args below meth c E Q cells slots C hc hs F H locs ls hP hS hL
  have hg := lkp_at hL hx
  subst hv
  obtain ⟨ls', e', h'⟩ := lv_store1 (v := .int (x + Int32.ofInt n)) hL hn rfl
  have hL' : lv_has ls' M.2.2.1 (cvL E L') := by
    rw [← hl, ← lst1_cv E L i (.int (x + Int32.ofInt n))]
    exact h'
  have kk := k z hz p l e R s m args below meth c E Q cells slots C hc hs F H locs ls' hP hS hL'
  intro T hT X
  obtain ⟨t, a, b⟩ := kk T hT X
  refine ⟨t, ?_, b⟩
  have hexec := C.1
  have hb := C.2.1
  have hg2 : ls[i]? = some (.val (.int x)) := hg
  jvm_step X.here [X.here.top, ↓top_set X.here.top, hexec, hb, hd, hg2, e']
  exact a
theorem v_iadd {x y : Int32} (hd : decode M.2.1 pc = .ok (.iadd, 1))  (k : VF M d SH ι (pc + 1) L (.int (x + y) :: st) σ o) : VF M d SH ι pc L (.int y :: .int x :: st) σ o :=
  fun z hz p l e R s m args below meth c E Q cells slots C hc hs F H locs ls hP hS hL => lv_iadd C.1 C.2.1 hd  (k z hz p l e R s m args below meth c E Q cells slots C hc hs F H locs ls hP hS hL)
theorem v_isub {x y : Int32} (hd : decode M.2.1 pc = .ok (.isub, 1))  (k : VF M d SH ι (pc + 1) L (.int (x - y) :: st) σ o) : VF M d SH ι pc L (.int y :: .int x :: st) σ o :=
  fun z hz p l e R s m args below meth c E Q cells slots C hc hs F H locs ls hP hS hL => lv_isub C.1 C.2.1 hd  (k z hz p l e R s m args below meth c E Q cells slots C hc hs F H locs ls hP hS hL)
theorem v_imul {x y : Int32} (hd : decode M.2.1 pc = .ok (.imul, 1))  (k : VF M d SH ι (pc + 1) L (.int (x * y) :: st) σ o) : VF M d SH ι pc L (.int y :: .int x :: st) σ o :=
  fun z hz p l e R s m args below meth c E Q cells slots C hc hs F H locs ls hP hS hL => lv_imul C.1 C.2.1 hd  (k z hz p l e R s m args below meth c E Q cells slots C hc hs F H locs ls hP hS hL)
theorem v_iand {x y : Int32} (hd : decode M.2.1 pc = .ok (.iand, 1))  (k : VF M d SH ι (pc + 1) L (.int (x &&& y) :: st) σ o) : VF M d SH ι pc L (.int y :: .int x :: st) σ o :=
  fun z hz p l e R s m args below meth c E Q cells slots C hc hs F H locs ls hP hS hL => lv_iand C.1 C.2.1 hd  (k z hz p l e R s m args below meth c E Q cells slots C hc hs F H locs ls hP hS hL)
theorem v_ior {x y : Int32} (hd : decode M.2.1 pc = .ok (.ior, 1))  (k : VF M d SH ι (pc + 1) L (.int (x ||| y) :: st) σ o) : VF M d SH ι pc L (.int y :: .int x :: st) σ o :=
  fun z hz p l e R s m args below meth c E Q cells slots C hc hs F H locs ls hP hS hL => lv_ior C.1 C.2.1 hd  (k z hz p l e R s m args below meth c E Q cells slots C hc hs F H locs ls hP hS hL)
theorem v_ixor {x y : Int32} (hd : decode M.2.1 pc = .ok (.ixor, 1))  (k : VF M d SH ι (pc + 1) L (.int (x ^^^ y) :: st) σ o) : VF M d SH ι pc L (.int y :: .int x :: st) σ o :=
  fun z hz p l e R s m args below meth c E Q cells slots C hc hs F H locs ls hP hS hL => lv_ixor C.1 C.2.1 hd  (k z hz p l e R s m args below meth c E Q cells slots C hc hs F H locs ls hP hS hL)
theorem v_ladd {x y : Int64} (hd : decode M.2.1 pc = .ok (.ladd, 1))  (k : VF M d SH ι (pc + 1) L (.long (x + y) :: st) σ o) : VF M d SH ι pc L (.long y :: .long x :: st) σ o :=
  fun z hz p l e R s m args below meth c E Q cells slots C hc hs F H locs ls hP hS hL => lv_ladd C.1 C.2.1 hd  (k z hz p l e R s m args below meth c E Q cells slots C hc hs F H locs ls hP hS hL)
theorem v_lsub {x y : Int64} (hd : decode M.2.1 pc = .ok (.lsub, 1))  (k : VF M d SH ι (pc + 1) L (.long (x - y) :: st) σ o) : VF M d SH ι pc L (.long y :: .long x :: st) σ o :=
  fun z hz p l e R s m args below meth c E Q cells slots C hc hs F H locs ls hP hS hL => lv_lsub C.1 C.2.1 hd  (k z hz p l e R s m args below meth c E Q cells slots C hc hs F H locs ls hP hS hL)
theorem v_lmul {x y : Int64} (hd : decode M.2.1 pc = .ok (.lmul, 1))  (k : VF M d SH ι (pc + 1) L (.long (x * y) :: st) σ o) : VF M d SH ι pc L (.long y :: .long x :: st) σ o :=
  fun z hz p l e R s m args below meth c E Q cells slots C hc hs F H locs ls hP hS hL => lv_lmul C.1 C.2.1 hd  (k z hz p l e R s m args below meth c E Q cells slots C hc hs F H locs ls hP hS hL)
theorem v_land {x y : Int64} (hd : decode M.2.1 pc = .ok (.land, 1))  (k : VF M d SH ι (pc + 1) L (.long (x &&& y) :: st) σ o) : VF M d SH ι pc L (.long y :: .long x :: st) σ o :=
  fun z hz p l e R s m args below meth c E Q cells slots C hc hs F H locs ls hP hS hL => lv_land C.1 C.2.1 hd  (k z hz p l e R s m args below meth c E Q cells slots C hc hs F H locs ls hP hS hL)
theorem v_lor {x y : Int64} (hd : decode M.2.1 pc = .ok (.lor, 1))  (k : VF M d SH ι (pc + 1) L (.long (x ||| y) :: st) σ o) : VF M d SH ι pc L (.long y :: .long x :: st) σ o :=
  fun z hz p l e R s m args below meth c E Q cells slots C hc hs F H locs ls hP hS hL => lv_lor C.1 C.2.1 hd  (k z hz p l e R s m args below meth c E Q cells slots C hc hs F H locs ls hP hS hL)
theorem v_lxor {x y : Int64} (hd : decode M.2.1 pc = .ok (.lxor, 1))  (k : VF M d SH ι (pc + 1) L (.long (x ^^^ y) :: st) σ o) : VF M d SH ι pc L (.long y :: .long x :: st) σ o :=
  fun z hz p l e R s m args below meth c E Q cells slots C hc hs F H locs ls hP hS hL => lv_lxor C.1 C.2.1 hd  (k z hz p l e R s m args below meth c E Q cells slots C hc hs F H locs ls hP hS hL)
theorem v_idiv {x y : Int32} (hd : decode M.2.1 pc = .ok (.idiv, 1)) (k : ¬ y = 0 → VF M d SH ι (pc + 1) L (.int (x / y) :: st) σ o) : VF M d SH ι pc L (.int y :: .int x :: st) σ (if y = 0 then none else o) := by
  intro z hz p l e R s m args below meth c E Q cells slots C hc hs F H locs ls hP hS hL
  by_cases h : y = 0
  · rw [if_pos h] at hz; cases hz
  · rw [if_neg h] at hz
    exact lv_idiv C.1 C.2.1 hd h (k h z hz p l e R s m args below meth c E Q cells slots C hc hs F H locs ls hP hS hL)
theorem v_idiv' {x y : Int32} (hd : decode M.2.1 pc = .ok (.idiv, 1)) (h : ¬ y = 0) (k : VF M d SH ι (pc + 1) L (.int (x / y) :: st) σ o) : VF M d SH ι pc L (.int y :: .int x :: st) σ o :=
  fun z hz p l e R s m args below meth c E Q cells slots C hc hs F H locs ls hP hS hL => lv_idiv C.1 C.2.1 hd h (k z hz p l e R s m args below meth c E Q cells slots C hc hs F H locs ls hP hS hL)
theorem v_irem {x y : Int32} (hd : decode M.2.1 pc = .ok (.irem, 1)) (k : ¬ y = 0 → VF M d SH ι (pc + 1) L (.int (x - x / y * y) :: st) σ o) : VF M d SH ι pc L (.int y :: .int x :: st) σ (if y = 0 then none else o) := by
  intro z hz p l e R s m args below meth c E Q cells slots C hc hs F H locs ls hP hS hL
  by_cases h : y = 0
  · rw [if_pos h] at hz; cases hz
  · rw [if_neg h] at hz
    exact lv_irem C.1 C.2.1 hd h (k h z hz p l e R s m args below meth c E Q cells slots C hc hs F H locs ls hP hS hL)
theorem v_irem' {x y : Int32} (hd : decode M.2.1 pc = .ok (.irem, 1)) (h : ¬ y = 0) (k : VF M d SH ι (pc + 1) L (.int (x - x / y * y) :: st) σ o) : VF M d SH ι pc L (.int y :: .int x :: st) σ o :=
  fun z hz p l e R s m args below meth c E Q cells slots C hc hs F H locs ls hP hS hL => lv_irem C.1 C.2.1 hd h (k z hz p l e R s m args below meth c E Q cells slots C hc hs F H locs ls hP hS hL)
theorem v_ldiv {x y : Int64} (hd : decode M.2.1 pc = .ok (.ldiv, 1)) (k : ¬ y = 0 → VF M d SH ι (pc + 1) L (.long (x / y) :: st) σ o) : VF M d SH ι pc L (.long y :: .long x :: st) σ (if y = 0 then none else o) := by
  intro z hz p l e R s m args below meth c E Q cells slots C hc hs F H locs ls hP hS hL
  by_cases h : y = 0
  · rw [if_pos h] at hz; cases hz
  · rw [if_neg h] at hz
    exact lv_ldiv C.1 C.2.1 hd h (k h z hz p l e R s m args below meth c E Q cells slots C hc hs F H locs ls hP hS hL)
theorem v_ldiv' {x y : Int64} (hd : decode M.2.1 pc = .ok (.ldiv, 1)) (h : ¬ y = 0) (k : VF M d SH ι (pc + 1) L (.long (x / y) :: st) σ o) : VF M d SH ι pc L (.long y :: .long x :: st) σ o :=
  fun z hz p l e R s m args below meth c E Q cells slots C hc hs F H locs ls hP hS hL => lv_ldiv C.1 C.2.1 hd h (k z hz p l e R s m args below meth c E Q cells slots C hc hs F H locs ls hP hS hL)
theorem v_lrem {x y : Int64} (hd : decode M.2.1 pc = .ok (.lrem, 1)) (k : ¬ y = 0 → VF M d SH ι (pc + 1) L (.long (x - x / y * y) :: st) σ o) : VF M d SH ι pc L (.long y :: .long x :: st) σ (if y = 0 then none else o) := by
  intro z hz p l e R s m args below meth c E Q cells slots C hc hs F H locs ls hP hS hL
  by_cases h : y = 0
  · rw [if_pos h] at hz; cases hz
  · rw [if_neg h] at hz
    exact lv_lrem C.1 C.2.1 hd h (k h z hz p l e R s m args below meth c E Q cells slots C hc hs F H locs ls hP hS hL)
theorem v_lrem' {x y : Int64} (hd : decode M.2.1 pc = .ok (.lrem, 1)) (h : ¬ y = 0) (k : VF M d SH ι (pc + 1) L (.long (x - x / y * y) :: st) σ o) : VF M d SH ι pc L (.long y :: .long x :: st) σ o :=
  fun z hz p l e R s m args below meth c E Q cells slots C hc hs F H locs ls hP hS hL => lv_lrem C.1 C.2.1 hd h (k z hz p l e R s m args below meth c E Q cells slots C hc hs F H locs ls hP hS hL)
theorem v_ineg {x : Int32} (hd : decode M.2.1 pc = .ok (.ineg, 1))  (k : VF M d SH ι (pc + 1) L (.int (-x) :: st) σ o) : VF M d SH ι pc L (.int x :: st) σ o :=
  fun z hz p l e R s m args below meth c E Q cells slots C hc hs F H locs ls hP hS hL => lv_ineg C.1 C.2.1 hd  (k z hz p l e R s m args below meth c E Q cells slots C hc hs F H locs ls hP hS hL)
theorem v_ishl {x y : Int32} (hd : decode M.2.1 pc = .ok (.ishl, 1))  (k : VF M d SH ι (pc + 1) L (.int (x <<< (y &&& 31)) :: st) σ o) : VF M d SH ι pc L (.int y :: .int x :: st) σ o :=
  fun z hz p l e R s m args below meth c E Q cells slots C hc hs F H locs ls hP hS hL => lv_ishl C.1 C.2.1 hd  (k z hz p l e R s m args below meth c E Q cells slots C hc hs F H locs ls hP hS hL)
theorem v_ishr {x y : Int32} (hd : decode M.2.1 pc = .ok (.ishr, 1))  (k : VF M d SH ι (pc + 1) L (.int (x >>> (y &&& 31)) :: st) σ o) : VF M d SH ι pc L (.int y :: .int x :: st) σ o :=
  fun z hz p l e R s m args below meth c E Q cells slots C hc hs F H locs ls hP hS hL => lv_ishr C.1 C.2.1 hd  (k z hz p l e R s m args below meth c E Q cells slots C hc hs F H locs ls hP hS hL)
theorem v_iushr {x y : Int32} (hd : decode M.2.1 pc = .ok (.iushr, 1))  (k : VF M d SH ι (pc + 1) L (.int ((x.toUInt32 >>> (y.toUInt32 &&& Int32.toUInt32 31)).toInt32) :: st) σ o) : VF M d SH ι pc L (.int y :: .int x :: st) σ o :=
  fun z hz p l e R s m args below meth c E Q cells slots C hc hs F H locs ls hP hS hL => lv_iushr C.1 C.2.1 hd rfl (k z hz p l e R s m args below meth c E Q cells slots C hc hs F H locs ls hP hS hL)
theorem v_lushr {x : Int64} {y : Int32} (hd : decode M.2.1 pc = .ok (.lushr, 1))  (k : VF M d SH ι (pc + 1) L (.long ((x.toUInt64 >>> (y.toInt64.toUInt64 &&& Int64.toUInt64 63)).toInt64) :: st) σ o) : VF M d SH ι pc L (.int y :: .long x :: st) σ o :=
  fun z hz p l e R s m args below meth c E Q cells slots C hc hs F H locs ls hP hS hL => lv_lushr C.1 C.2.1 hd rfl (k z hz p l e R s m args below meth c E Q cells slots C hc hs F H locs ls hP hS hL)
theorem v_lshl {x : Int64} {y : Int32} (hd : decode M.2.1 pc = .ok (.lshl, 1))  (k : VF M d SH ι (pc + 1) L (.long (x <<< (y.toInt64 &&& 63)) :: st) σ o) : VF M d SH ι pc L (.int y :: .long x :: st) σ o :=
  fun z hz p l e R s m args below meth c E Q cells slots C hc hs F H locs ls hP hS hL => lv_lshl C.1 C.2.1 hd rfl (k z hz p l e R s m args below meth c E Q cells slots C hc hs F H locs ls hP hS hL)
theorem v_lshr {x : Int64} {y : Int32} (hd : decode M.2.1 pc = .ok (.lshr, 1))  (k : VF M d SH ι (pc + 1) L (.long (x >>> (y.toInt64 &&& 63)) :: st) σ o) : VF M d SH ι pc L (.int y :: .long x :: st) σ o :=
  fun z hz p l e R s m args below meth c E Q cells slots C hc hs F H locs ls hP hS hL => lv_lshr C.1 C.2.1 hd rfl (k z hz p l e R s m args below meth c E Q cells slots C hc hs F H locs ls hP hS hL)
theorem v_i2l {x : Int32} (hd : decode M.2.1 pc = .ok (.i2l, 1))  (k : VF M d SH ι (pc + 1) L (.long x.toInt64 :: st) σ o) : VF M d SH ι pc L (.int x :: st) σ o :=
  fun z hz p l e R s m args below meth c E Q cells slots C hc hs F H locs ls hP hS hL => lv_i2l C.1 C.2.1 hd rfl (k z hz p l e R s m args below meth c E Q cells slots C hc hs F H locs ls hP hS hL)
theorem v_l2i {x : Int64} (hd : decode M.2.1 pc = .ok (.l2i, 1))  (k : VF M d SH ι (pc + 1) L (.int x.toInt32 :: st) σ o) : VF M d SH ι pc L (.long x :: st) σ o :=
  fun z hz p l e R s m args below meth c E Q cells slots C hc hs F H locs ls hP hS hL => lv_l2i C.1 C.2.1 hd rfl (k z hz p l e R s m args below meth c E Q cells slots C hc hs F H locs ls hP hS hL)
theorem v_i2b {x : Int32} (hd : decode M.2.1 pc = .ok (.i2b, 1))  (k : VF M d SH ι (pc + 1) L (.int x.toInt8.toInt32 :: st) σ o) : VF M d SH ι pc L (.int x :: st) σ o :=
  fun z hz p l e R s m args below meth c E Q cells slots C hc hs F H locs ls hP hS hL => lv_i2b C.1 C.2.1 hd rfl (k z hz p l e R s m args below meth c E Q cells slots C hc hs F H locs ls hP hS hL)
theorem v_i2s {x : Int32} (hd : decode M.2.1 pc = .ok (.i2s, 1))  (k : VF M d SH ι (pc + 1) L (.int x.toInt16.toInt32 :: st) σ o) : VF M d SH ι pc L (.int x :: st) σ o :=
  fun z hz p l e R s m args below meth c E Q cells slots C hc hs F H locs ls hP hS hL => lv_i2s C.1 C.2.1 hd rfl (k z hz p l e R s m args below meth c E Q cells slots C hc hs F H locs ls hP hS hL)
theorem v_i2c {x : Int32} (hd : decode M.2.1 pc = .ok (.i2c, 1))  (k : VF M d SH ι (pc + 1) L (.int (x.toUInt32 % 65536).toInt32 :: st) σ o) : VF M d SH ι pc L (.int x :: st) σ o :=
  fun z hz p l e R s m args below meth c E Q cells slots C hc hs F H locs ls hP hS hL => lv_i2c C.1 C.2.1 hd rfl (k z hz p l e R s m args below meth c E Q cells slots C hc hs F H locs ls hP hS hL)
theorem v_dup {v : Value} (hd : decode M.2.1 pc = .ok (.dup, 1)) (hv : v.category = 1) (k : VF M d SH ι (pc + 1) L (v :: v :: st) σ o) : VF M d SH ι pc L (v :: st) σ o :=
  fun z hz p l e R s m args below meth c E Q cells slots C hc hs F H locs ls hP hS hL => lv_dup C.1 C.2.1 hd ((cv_cat E v).trans hv) (k z hz p l e R s m args below meth c E Q cells slots C hc hs F H locs ls hP hS hL)
theorem v_dup_x1 {v w : Value} (hd : decode M.2.1 pc = .ok (.dup_x1, 1)) (hv : v.category = 1) (hw : w.category = 1) (k : VF M d SH ι (pc + 1) L (v :: w :: v :: st) σ o) : VF M d SH ι pc L (v :: w :: st) σ o :=
  fun z hz p l e R s m args below meth c E Q cells slots C hc hs F H locs ls hP hS hL => lv_dup_x1 C.1 C.2.1 hd ((cv_cat E v).trans hv) ((cv_cat E w).trans hw) (k z hz p l e R s m args below meth c E Q cells slots C hc hs F H locs ls hP hS hL)
theorem v_dup_x2 {v w u : Value} (hd : decode M.2.1 pc = .ok (.dup_x2, 1)) (hv : v.category = 1) (hw : w.category = 1) (hu : u.category = 1) (k : VF M d SH ι (pc + 1) L (v :: w :: u :: v :: st) σ o) : VF M d SH ι pc L (v :: w :: u :: st) σ o :=
  fun z hz p l e R s m args below meth c E Q cells slots C hc hs F H locs ls hP hS hL => lv_dup_x2 C.1 C.2.1 hd ((cv_cat E v).trans hv) ((cv_cat E w).trans hw) ((cv_cat E u).trans hu) (k z hz p l e R s m args below meth c E Q cells slots C hc hs F H locs ls hP hS hL)
theorem v_dup2 {v w : Value} (hd : decode M.2.1 pc = .ok (.dup2, 1)) (hv : v.category = 1) (hw : w.category = 1) (k : VF M d SH ι (pc + 1) L (v :: w :: v :: w :: st) σ o) : VF M d SH ι pc L (v :: w :: st) σ o :=
  fun z hz p l e R s m args below meth c E Q cells slots C hc hs F H locs ls hP hS hL => lv_dup2_11 C.1 C.2.1 hd ((cv_cat E v).trans hv) ((cv_cat E w).trans hw) (k z hz p l e R s m args below meth c E Q cells slots C hc hs F H locs ls hP hS hL)
theorem v_pop {v : Value} (hd : decode M.2.1 pc = .ok (.pop, 1)) (hv : v.category = 1) (k : VF M d SH ι (pc + 1) L (st) σ o) : VF M d SH ι pc L (v :: st) σ o :=
  fun z hz p l e R s m args below meth c E Q cells slots C hc hs F H locs ls hP hS hL => lv_pop C.1 C.2.1 hd ((cv_cat E v).trans hv) (k z hz p l e R s m args below meth c E Q cells slots C hc hs F H locs ls hP hS hL)
theorem v_goto {off : Int} {tgt : Nat} (hd : decode M.2.1 pc = .ok (.goto off, 3)) (ht : (pc : Int) + off = (tgt : Int)) (k : VF M d SH ι tgt L st σ o) : VF M d SH ι pc L st σ o :=
  fun z hz p l e R s m args below meth c E Q cells slots C hc hs F H locs ls hP hS hL => lv_goto C.1 C.2.1 hd ht (k z hz p l e R s m args below meth c E Q cells slots C hc hs F H locs ls hP hS hL)
theorem v_lcmp {x y : Int64} (hd : decode M.2.1 pc = .ok (.lcmp, 1)) (k : VF M d SH ι (pc + 1) L (.int (lg_cmp x y) :: st) σ o) : VF M d SH ι pc L (.long y :: .long x :: st) σ o :=
  fun z hz p l e R s m args below meth c E Q cells slots C hc hs F H locs ls hP hS hL => W.lcmp C.1 C.2.1 hd (k z hz p l e R s m args below meth c E Q cells slots C hc hs F H locs ls hP hS hL)
theorem v_if_eq {x : Int32} {off : Int} {tgt : Nat} (hd : decode M.2.1 pc = .ok (.ifCond .eq off, 3)) (ht : (pc : Int) + off = (tgt : Int)) (kt : x = 0 → VF M d SH ι tgt L st σ o1) (kf : ¬ x = 0 → VF M d SH ι (pc + 3) L st σ o2) : VF M d SH ι pc L (.int x :: st) σ (if x = 0 then o1 else o2) := by
  intro z hz p l e R s m args below meth c E Q cells slots C hc hs F H locs ls hP hS hL
  exact lv_if_eq C.1 C.2.1 hd ht (fun h => kt h z (by rw [if_pos h] at hz; exact hz) p l e R s m args below meth c E Q cells slots C hc hs F H locs ls hP hS hL) (fun h => kf h z (by rw [if_neg h] at hz; exact hz) p l e R s m args below meth c E Q cells slots C hc hs F H locs ls hP hS hL)
theorem v_if_eqJ {x : Int32} {off : Int} {tgt : Nat} {β : Type} {a1 a2 : Option β} {K : β → Option α} (hd : decode M.2.1 pc = .ok (.ifCond .eq off, 3)) (ht : (pc : Int) + off = (tgt : Int)) (kt : x = 0 → VF M d SH ι tgt L st σ (Option.bind a1 K)) (kf : ¬ x = 0 → VF M d SH ι (pc + 3) L st σ (Option.bind a2 K)) : VF M d SH ι pc L (.int x :: st) σ (Option.bind (if x = 0 then a1 else a2) K) := by
  have e : (Option.bind (if x = 0 then a1 else a2) K) = (if x = 0 then (Option.bind a1 K) else (Option.bind a2 K)) := by split <;> rfl
  rw [e]
  exact v_if_eq hd ht kt kf
theorem v_icmp_eq {x y : Int32} {off : Int} {tgt : Nat} (hd : decode M.2.1 pc = .ok (.if_icmp .eq off, 3)) (ht : (pc : Int) + off = (tgt : Int)) (kt : x = y → VF M d SH ι tgt L st σ o1) (kf : ¬ x = y → VF M d SH ι (pc + 3) L st σ o2) : VF M d SH ι pc L (.int y :: .int x :: st) σ (if x = y then o1 else o2) := by
  intro z hz p l e R s m args below meth c E Q cells slots C hc hs F H locs ls hP hS hL
  exact lv_icmp_eq C.1 C.2.1 hd ht (fun h => kt h z (by rw [if_pos h] at hz; exact hz) p l e R s m args below meth c E Q cells slots C hc hs F H locs ls hP hS hL) (fun h => kf h z (by rw [if_neg h] at hz; exact hz) p l e R s m args below meth c E Q cells slots C hc hs F H locs ls hP hS hL)
theorem v_icmp_eqJ {x y : Int32} {off : Int} {tgt : Nat} {β : Type} {a1 a2 : Option β} {K : β → Option α} (hd : decode M.2.1 pc = .ok (.if_icmp .eq off, 3)) (ht : (pc : Int) + off = (tgt : Int)) (kt : x = y → VF M d SH ι tgt L st σ (Option.bind a1 K)) (kf : ¬ x = y → VF M d SH ι (pc + 3) L st σ (Option.bind a2 K)) : VF M d SH ι pc L (.int y :: .int x :: st) σ (Option.bind (if x = y then a1 else a2) K) := by
  have e : (Option.bind (if x = y then a1 else a2) K) = (if x = y then (Option.bind a1 K) else (Option.bind a2 K)) := by split <;> rfl
  rw [e]
  exact v_icmp_eq hd ht kt kf
theorem v_if_ne {x : Int32} {off : Int} {tgt : Nat} (hd : decode M.2.1 pc = .ok (.ifCond .ne off, 3)) (ht : (pc : Int) + off = (tgt : Int)) (kt : ¬ x = 0 → VF M d SH ι tgt L st σ o1) (kf : x = 0 → VF M d SH ι (pc + 3) L st σ o2) : VF M d SH ι pc L (.int x :: st) σ (if x = 0 then o2 else o1) := by
  intro z hz p l e R s m args below meth c E Q cells slots C hc hs F H locs ls hP hS hL
  exact lv_if_ne C.1 C.2.1 hd ht (fun h => kt h z (by rw [if_neg h] at hz; exact hz) p l e R s m args below meth c E Q cells slots C hc hs F H locs ls hP hS hL) (fun h => kf h z (by rw [if_pos h] at hz; exact hz) p l e R s m args below meth c E Q cells slots C hc hs F H locs ls hP hS hL)
theorem v_if_neJ {x : Int32} {off : Int} {tgt : Nat} {β : Type} {a1 a2 : Option β} {K : β → Option α} (hd : decode M.2.1 pc = .ok (.ifCond .ne off, 3)) (ht : (pc : Int) + off = (tgt : Int)) (kt : ¬ x = 0 → VF M d SH ι tgt L st σ (Option.bind a1 K)) (kf : x = 0 → VF M d SH ι (pc + 3) L st σ (Option.bind a2 K)) : VF M d SH ι pc L (.int x :: st) σ (Option.bind (if x = 0 then a2 else a1) K) := by
  have e : (Option.bind (if x = 0 then a2 else a1) K) = (if x = 0 then (Option.bind a2 K) else (Option.bind a1 K)) := by split <;> rfl
  rw [e]
  exact v_if_ne hd ht kt kf
theorem v_icmp_ne {x y : Int32} {off : Int} {tgt : Nat} (hd : decode M.2.1 pc = .ok (.if_icmp .ne off, 3)) (ht : (pc : Int) + off = (tgt : Int)) (kt : ¬ x = y → VF M d SH ι tgt L st σ o1) (kf : x = y → VF M d SH ι (pc + 3) L st σ o2) : VF M d SH ι pc L (.int y :: .int x :: st) σ (if x = y then o2 else o1) := by
  intro z hz p l e R s m args below meth c E Q cells slots C hc hs F H locs ls hP hS hL
  exact lv_icmp_ne C.1 C.2.1 hd ht (fun h => kt h z (by rw [if_neg h] at hz; exact hz) p l e R s m args below meth c E Q cells slots C hc hs F H locs ls hP hS hL) (fun h => kf h z (by rw [if_pos h] at hz; exact hz) p l e R s m args below meth c E Q cells slots C hc hs F H locs ls hP hS hL)
theorem v_icmp_neJ {x y : Int32} {off : Int} {tgt : Nat} {β : Type} {a1 a2 : Option β} {K : β → Option α} (hd : decode M.2.1 pc = .ok (.if_icmp .ne off, 3)) (ht : (pc : Int) + off = (tgt : Int)) (kt : ¬ x = y → VF M d SH ι tgt L st σ (Option.bind a1 K)) (kf : x = y → VF M d SH ι (pc + 3) L st σ (Option.bind a2 K)) : VF M d SH ι pc L (.int y :: .int x :: st) σ (Option.bind (if x = y then a2 else a1) K) := by
  have e : (Option.bind (if x = y then a2 else a1) K) = (if x = y then (Option.bind a2 K) else (Option.bind a1 K)) := by split <;> rfl
  rw [e]
  exact v_icmp_ne hd ht kt kf
theorem v_if_lt {x : Int32} {off : Int} {tgt : Nat} (hd : decode M.2.1 pc = .ok (.ifCond .lt off, 3)) (ht : (pc : Int) + off = (tgt : Int)) (kt : x < 0 → VF M d SH ι tgt L st σ o1) (kf : ¬ x < 0 → VF M d SH ι (pc + 3) L st σ o2) : VF M d SH ι pc L (.int x :: st) σ (if x < 0 then o1 else o2) := by
  intro z hz p l e R s m args below meth c E Q cells slots C hc hs F H locs ls hP hS hL
  exact lv_if_lt C.1 C.2.1 hd ht (fun h => kt h z (by rw [if_pos h] at hz; exact hz) p l e R s m args below meth c E Q cells slots C hc hs F H locs ls hP hS hL) (fun h => kf h z (by rw [if_neg h] at hz; exact hz) p l e R s m args below meth c E Q cells slots C hc hs F H locs ls hP hS hL)
theorem v_if_ltJ {x : Int32} {off : Int} {tgt : Nat} {β : Type} {a1 a2 : Option β} {K : β → Option α} (hd : decode M.2.1 pc = .ok (.ifCond .lt off, 3)) (ht : (pc : Int) + off = (tgt : Int)) (kt : x < 0 → VF M d SH ι tgt L st σ (Option.bind a1 K)) (kf : ¬ x < 0 → VF M d SH ι (pc + 3) L st σ (Option.bind a2 K)) : VF M d SH ι pc L (.int x :: st) σ (Option.bind (if x < 0 then a1 else a2) K) := by
  have e : (Option.bind (if x < 0 then a1 else a2) K) = (if x < 0 then (Option.bind a1 K) else (Option.bind a2 K)) := by split <;> rfl
  rw [e]
  exact v_if_lt hd ht kt kf
theorem v_icmp_lt {x y : Int32} {off : Int} {tgt : Nat} (hd : decode M.2.1 pc = .ok (.if_icmp .lt off, 3)) (ht : (pc : Int) + off = (tgt : Int)) (kt : x < y → VF M d SH ι tgt L st σ o1) (kf : ¬ x < y → VF M d SH ι (pc + 3) L st σ o2) : VF M d SH ι pc L (.int y :: .int x :: st) σ (if x < y then o1 else o2) := by
  intro z hz p l e R s m args below meth c E Q cells slots C hc hs F H locs ls hP hS hL
  exact lv_icmp_lt C.1 C.2.1 hd ht (fun h => kt h z (by rw [if_pos h] at hz; exact hz) p l e R s m args below meth c E Q cells slots C hc hs F H locs ls hP hS hL) (fun h => kf h z (by rw [if_neg h] at hz; exact hz) p l e R s m args below meth c E Q cells slots C hc hs F H locs ls hP hS hL)
theorem v_icmp_ltJ {x y : Int32} {off : Int} {tgt : Nat} {β : Type} {a1 a2 : Option β} {K : β → Option α} (hd : decode M.2.1 pc = .ok (.if_icmp .lt off, 3)) (ht : (pc : Int) + off = (tgt : Int)) (kt : x < y → VF M d SH ι tgt L st σ (Option.bind a1 K)) (kf : ¬ x < y → VF M d SH ι (pc + 3) L st σ (Option.bind a2 K)) : VF M d SH ι pc L (.int y :: .int x :: st) σ (Option.bind (if x < y then a1 else a2) K) := by
  have e : (Option.bind (if x < y then a1 else a2) K) = (if x < y then (Option.bind a1 K) else (Option.bind a2 K)) := by split <;> rfl
  rw [e]
  exact v_icmp_lt hd ht kt kf
theorem v_if_ge {x : Int32} {off : Int} {tgt : Nat} (hd : decode M.2.1 pc = .ok (.ifCond .ge off, 3)) (ht : (pc : Int) + off = (tgt : Int)) (kt : 0 ≤ x → VF M d SH ι tgt L st σ o1) (kf : ¬ 0 ≤ x → VF M d SH ι (pc + 3) L st σ o2) : VF M d SH ι pc L (.int x :: st) σ (if 0 ≤ x then o1 else o2) := by
  intro z hz p l e R s m args below meth c E Q cells slots C hc hs F H locs ls hP hS hL
  exact lv_if_ge C.1 C.2.1 hd ht (fun h => kt h z (by rw [if_pos h] at hz; exact hz) p l e R s m args below meth c E Q cells slots C hc hs F H locs ls hP hS hL) (fun h => kf h z (by rw [if_neg h] at hz; exact hz) p l e R s m args below meth c E Q cells slots C hc hs F H locs ls hP hS hL)
theorem v_if_geJ {x : Int32} {off : Int} {tgt : Nat} {β : Type} {a1 a2 : Option β} {K : β → Option α} (hd : decode M.2.1 pc = .ok (.ifCond .ge off, 3)) (ht : (pc : Int) + off = (tgt : Int)) (kt : 0 ≤ x → VF M d SH ι tgt L st σ (Option.bind a1 K)) (kf : ¬ 0 ≤ x → VF M d SH ι (pc + 3) L st σ (Option.bind a2 K)) : VF M d SH ι pc L (.int x :: st) σ (Option.bind (if 0 ≤ x then a1 else a2) K) := by
  have e : (Option.bind (if 0 ≤ x then a1 else a2) K) = (if 0 ≤ x then (Option.bind a1 K) else (Option.bind a2 K)) := by split <;> rfl
  rw [e]
  exact v_if_ge hd ht kt kf
theorem v_icmp_ge {x y : Int32} {off : Int} {tgt : Nat} (hd : decode M.2.1 pc = .ok (.if_icmp .ge off, 3)) (ht : (pc : Int) + off = (tgt : Int)) (kt : y ≤ x → VF M d SH ι tgt L st σ o1) (kf : ¬ y ≤ x → VF M d SH ι (pc + 3) L st σ o2) : VF M d SH ι pc L (.int y :: .int x :: st) σ (if y ≤ x then o1 else o2) := by
  intro z hz p l e R s m args below meth c E Q cells slots C hc hs F H locs ls hP hS hL
  exact lv_icmp_ge C.1 C.2.1 hd ht (fun h => kt h z (by rw [if_pos h] at hz; exact hz) p l e R s m args below meth c E Q cells slots C hc hs F H locs ls hP hS hL) (fun h => kf h z (by rw [if_neg h] at hz; exact hz) p l e R s m args below meth c E Q cells slots C hc hs F H locs ls hP hS hL)
theorem v_icmp_geJ {x y : Int32} {off : Int} {tgt : Nat} {β : Type} {a1 a2 : Option β} {K : β → Option α} (hd : decode M.2.1 pc = .ok (.if_icmp .ge off, 3)) (ht : (pc : Int) + off = (tgt : Int)) (kt : y ≤ x → VF M d SH ι tgt L st σ (Option.bind a1 K)) (kf : ¬ y ≤ x → VF M d SH ι (pc + 3) L st σ (Option.bind a2 K)) : VF M d SH ι pc L (.int y :: .int x :: st) σ (Option.bind (if y ≤ x then a1 else a2) K) := by
  have e : (Option.bind (if y ≤ x then a1 else a2) K) = (if y ≤ x then (Option.bind a1 K) else (Option.bind a2 K)) := by split <;> rfl
  rw [e]
  exact v_icmp_ge hd ht kt kf
theorem v_if_gt {x : Int32} {off : Int} {tgt : Nat} (hd : decode M.2.1 pc = .ok (.ifCond .gt off, 3)) (ht : (pc : Int) + off = (tgt : Int)) (kt : 0 < x → VF M d SH ι tgt L st σ o1) (kf : ¬ 0 < x → VF M d SH ι (pc + 3) L st σ o2) : VF M d SH ι pc L (.int x :: st) σ (if 0 < x then o1 else o2) := by
  intro z hz p l e R s m args below meth c E Q cells slots C hc hs F H locs ls hP hS hL
  exact lv_if_gt C.1 C.2.1 hd ht (fun h => kt h z (by rw [if_pos h] at hz; exact hz) p l e R s m args below meth c E Q cells slots C hc hs F H locs ls hP hS hL) (fun h => kf h z (by rw [if_neg h] at hz; exact hz) p l e R s m args below meth c E Q cells slots C hc hs F H locs ls hP hS hL)
theorem v_if_gtJ {x : Int32} {off : Int} {tgt : Nat} {β : Type} {a1 a2 : Option β} {K : β → Option α} (hd : decode M.2.1 pc = .ok (.ifCond .gt off, 3)) (ht : (pc : Int) + off = (tgt : Int)) (kt : 0 < x → VF M d SH ι tgt L st σ (Option.bind a1 K)) (kf : ¬ 0 < x → VF M d SH ι (pc + 3) L st σ (Option.bind a2 K)) : VF M d SH ι pc L (.int x :: st) σ (Option.bind (if 0 < x then a1 else a2) K) := by
  have e : (Option.bind (if 0 < x then a1 else a2) K) = (if 0 < x then (Option.bind a1 K) else (Option.bind a2 K)) := by split <;> rfl
  rw [e]
  exact v_if_gt hd ht kt kf
theorem v_icmp_gt {x y : Int32} {off : Int} {tgt : Nat} (hd : decode M.2.1 pc = .ok (.if_icmp .gt off, 3)) (ht : (pc : Int) + off = (tgt : Int)) (kt : y < x → VF M d SH ι tgt L st σ o1) (kf : ¬ y < x → VF M d SH ι (pc + 3) L st σ o2) : VF M d SH ι pc L (.int y :: .int x :: st) σ (if y < x then o1 else o2) := by
  intro z hz p l e R s m args below meth c E Q cells slots C hc hs F H locs ls hP hS hL
  exact lv_icmp_gt C.1 C.2.1 hd ht (fun h => kt h z (by rw [if_pos h] at hz; exact hz) p l e R s m args below meth c E Q cells slots C hc hs F H locs ls hP hS hL) (fun h => kf h z (by rw [if_neg h] at hz; exact hz) p l e R s m args below meth c E Q cells slots C hc hs F H locs ls hP hS hL)
theorem v_icmp_gtJ {x y : Int32} {off : Int} {tgt : Nat} {β : Type} {a1 a2 : Option β} {K : β → Option α} (hd : decode M.2.1 pc = .ok (.if_icmp .gt off, 3)) (ht : (pc : Int) + off = (tgt : Int)) (kt : y < x → VF M d SH ι tgt L st σ (Option.bind a1 K)) (kf : ¬ y < x → VF M d SH ι (pc + 3) L st σ (Option.bind a2 K)) : VF M d SH ι pc L (.int y :: .int x :: st) σ (Option.bind (if y < x then a1 else a2) K) := by
  have e : (Option.bind (if y < x then a1 else a2) K) = (if y < x then (Option.bind a1 K) else (Option.bind a2 K)) := by split <;> rfl
  rw [e]
  exact v_icmp_gt hd ht kt kf
theorem v_if_le {x : Int32} {off : Int} {tgt : Nat} (hd : decode M.2.1 pc = .ok (.ifCond .le off, 3)) (ht : (pc : Int) + off = (tgt : Int)) (kt : x ≤ 0 → VF M d SH ι tgt L st σ o1) (kf : ¬ x ≤ 0 → VF M d SH ι (pc + 3) L st σ o2) : VF M d SH ι pc L (.int x :: st) σ (if x ≤ 0 then o1 else o2) := by
  intro z hz p l e R s m args below meth c E Q cells slots C hc hs F H locs ls hP hS hL
  exact lv_if_le C.1 C.2.1 hd ht (fun h => kt h z (by rw [if_pos h] at hz; exact hz) p l e R s m args below meth c E Q cells slots C hc hs F H locs ls hP hS hL) (fun h => kf h z (by rw [if_neg h] at hz; exact hz) p l e R s m args below meth c E Q cells slots C hc hs F H locs ls hP hS hL)
theorem v_if_leJ {x : Int32} {off : Int} {tgt : Nat} {β : Type} {a1 a2 : Option β} {K : β → Option α} (hd : decode M.2.1 pc = .ok (.ifCond .le off, 3)) (ht : (pc : Int) + off = (tgt : Int)) (kt : x ≤ 0 → VF M d SH ι tgt L st σ (Option.bind a1 K)) (kf : ¬ x ≤ 0 → VF M d SH ι (pc + 3) L st σ (Option.bind a2 K)) : VF M d SH ι pc L (.int x :: st) σ (Option.bind (if x ≤ 0 then a1 else a2) K) := by
  have e : (Option.bind (if x ≤ 0 then a1 else a2) K) = (if x ≤ 0 then (Option.bind a1 K) else (Option.bind a2 K)) := by split <;> rfl
  rw [e]
  exact v_if_le hd ht kt kf
theorem v_icmp_le {x y : Int32} {off : Int} {tgt : Nat} (hd : decode M.2.1 pc = .ok (.if_icmp .le off, 3)) (ht : (pc : Int) + off = (tgt : Int)) (kt : x ≤ y → VF M d SH ι tgt L st σ o1) (kf : ¬ x ≤ y → VF M d SH ι (pc + 3) L st σ o2) : VF M d SH ι pc L (.int y :: .int x :: st) σ (if x ≤ y then o1 else o2) := by
  intro z hz p l e R s m args below meth c E Q cells slots C hc hs F H locs ls hP hS hL
  exact lv_icmp_le C.1 C.2.1 hd ht (fun h => kt h z (by rw [if_pos h] at hz; exact hz) p l e R s m args below meth c E Q cells slots C hc hs F H locs ls hP hS hL) (fun h => kf h z (by rw [if_neg h] at hz; exact hz) p l e R s m args below meth c E Q cells slots C hc hs F H locs ls hP hS hL)
theorem v_icmp_leJ {x y : Int32} {off : Int} {tgt : Nat} {β : Type} {a1 a2 : Option β} {K : β → Option α} (hd : decode M.2.1 pc = .ok (.if_icmp .le off, 3)) (ht : (pc : Int) + off = (tgt : Int)) (kt : x ≤ y → VF M d SH ι tgt L st σ (Option.bind a1 K)) (kf : ¬ x ≤ y → VF M d SH ι (pc + 3) L st σ (Option.bind a2 K)) : VF M d SH ι pc L (.int y :: .int x :: st) σ (Option.bind (if x ≤ y then a1 else a2) K) := by
  have e : (Option.bind (if x ≤ y then a1 else a2) K) = (if x ≤ y then (Option.bind a1 K) else (Option.bind a2 K)) := by split <;> rfl
  rw [e]
  exact v_icmp_le hd ht kt kf
end VFS
