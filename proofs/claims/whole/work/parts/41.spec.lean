/-! the common value of a moor: m.1 0 0 how many people; m.1 1 laws, 2 heights, 3 waters by cells; 5 kinds, 6 senses, 7 sures, 8 ats by people; m.2.1 the year, m.2.2 z -/
abbrev MS : Type := (Nat → Nat → Nat) × Int32 × Int32
def nP (m : MS) : Nat := m.1 0 0
def plainS (m : MS) (p : Nat) : Nat := if 50 ≤ m.1 7 p then m.1 6 p else 0
def doubS (m : MS) (p : Nat) : Nat := if plainS m p = 0 ∧ 0 < m.1 7 p then 1 else plainS m p
def evenY (y : Int32) : Bool := decide (y - y / 2 * 2 = 0)
def kindW (m : MS) (p : Nat) : Nat := if m.1 5 p = 1 then 2 * plainS m p else if m.1 5 p = 2 then doubS m p else if m.1 5 p = 3 then 2 * plainS m p + m.1 1 0 else if m.1 5 p = 4 then doubS m p / 2 else if m.1 5 p = 5 then (if evenY m.2.1 = true then plainS m p else 0) else plainS m p
def wellS (mu : Nat) (m : MS) (p : Nat) : Nat := if mu.testBit p = true then 0 else kindW m p
/-- what one loses, and 5 more -/
def l5S (m : MS) (p : Nat) : Nat := if m.1 5 p = 1 then 10 else if m.1 5 p = 2 then 15 + m.1 6 p else if m.1 5 p = 3 then 5 else if m.1 5 p = 4 then m.1 6 p else if m.1 5 p = 5 then 35 else 15
def winS (m : MS) (p : Nat) : Nat := if m.1 5 p = 1 then 5 else if m.1 5 p = 2 then 1 else if m.1 5 p = 3 then 5 else if m.1 5 p = 4 then 1 else if m.1 5 p = 5 then 0 else 3
def disS (mu : Nat) (m : MS) (p q : Nat) : Bool := decide (m.1 8 p = m.1 8 q ∧ 0 < m.1 7 p ∧ 0 < m.1 7 q ∧ mu.testBit p = false ∧ mu.testBit q = false ∧ (m.1 7 p + 30 ≤ m.1 7 q ∨ m.1 7 q + 30 ≤ m.1 7 p))
def lowStep (h : Nat → Nat) (b : Nat) (ok : Bool) (o : Nat) : Nat := if ok = true ∧ h o < h b then o else b
/-- the lowest beside a cell; itself, if there is none -/
def lowS (h : Nat → Nat) (c : Nat) : Nat := lowStep h (lowStep h (lowStep h (lowStep h c (decide (8 ≤ c)) (c - 8)) (decide (0 < c % 8)) (c - 1)) (decide (c % 8 < 7)) (c + 1)) (decide (c < 24)) (c + 8)
def lowI (h : Nat → Nat) (c : Nat) (no : Int32) : Int32 := if lowS h c = c then no else nI (lowS h c)
/-- all numbers are in their ranges -/
def BM (m : MS) : Prop := m.1 0 0 ≤ 8 ∧ (∀ i, i < 2 → m.1 1 i ≤ 9) ∧ m.1 1 2 ≤ 50 ∧ m.1 1 3 ≤ 99 ∧ (∀ c, c < 32 → m.1 2 c ≤ 9 ∧ m.1 3 c ≤ 99) ∧ (∀ p, p < m.1 0 0 → m.1 5 p ≤ 5 ∧ m.1 6 p ≤ 9 ∧ m.1 7 p ≤ 99 ∧ m.1 8 p ≤ 31)
/-- the class's Moor at b holds m, with mu without effect -/
def CM (s : St) (b mu : Nat) (m : MS) : Prop := gF s b 1 = m.2.1 ∧ gF s b 2 = m.2.2 ∧ gF s b 6 = nI (m.1 0 0) ∧ gF s b 11 = nI mu ∧ (∀ i, i < 4 → gA s (b + 1) i = nI (m.1 1 i)) ∧ (∀ c, c < 32 → gA s (b + 2) c = nI (m.1 2 c) ∧ gA s (b + 3) c = nI (m.1 3 c) ∧ gA s (b + 4) c = lowI (m.1 2) c (-1)) ∧
  (∀ p, p < m.1 0 0 → gA s (b + 5) p = nI (m.1 5 p) ∧ gA s (b + 6) p = nI (m.1 6 p) ∧ gA s (b + 7) p = nI (m.1 7 p) ∧ gA s (b + 8) p = nI (m.1 8 p))
/-- a row of the reference holds m -/
def RM (f : Nat → Int32) (m : MS) : Prop := f 4 = m.2.1 ∧ f 6 = m.2.2 ∧ f 5 = nI (m.1 0 0) ∧ (∀ i, i < 4 → f i = nI (m.1 1 i)) ∧ (∀ c, c < 32 → f (7 + c) = nI (m.1 2 c) ∧ f (39 + c) = nI (m.1 3 c)) ∧ (∀ p, p < m.1 0 0 → f (71 + 4 * p) = nI (m.1 5 p) ∧ f (72 + 4 * p) = nI (m.1 6 p) ∧ f (73 + 4 * p) = nI (m.1 7 p) ∧ f (74 + 4 * p) = nI (m.1 8 p))
/-- the cells that w doesn't name are as they were -/
def Fr (w : Nat → Prop) (s t : St) : Prop := ∀ k, ¬ w k → (∀ j, gF t k j = gF s k j) ∧ (∀ j, gA t k j = gA s k j) ∧ (∀ j, gL t k j = gL s k j)
theorem Fr.rf {w : Nat → Prop} {s : St} : Fr w s s := fun _ _ => ⟨fun _ => rfl, fun _ => rfl, fun _ => rfl⟩
theorem Fr.tr {w : Nat → Prop} {s t u : St} (h : Fr w s t) (g : Fr w t u) : Fr w s u := fun k hk => ⟨fun j => ((g k hk).1 j).trans ((h k hk).1 j), fun j => ((g k hk).2.1 j).trans ((h k hk).2.1 j), fun j => ((g k hk).2.2 j).trans ((h k hk).2.2 j)⟩
theorem Fr.wk {w v : Nat → Prop} {s t : St} (h : Fr w s t) (hw : ∀ k, w k → v k) : Fr v s t := fun k hk => h k (fun q => hk (hw k q))
theorem Fr.pF {w : Nat → Prop} {s : St} {k j : Nat} {v : Int32} (h : w k) : Fr w s (pF s k j v) := fun k' hk => ⟨fun j' => by rw [gF_pF, if_neg (fun (q : k' = k ∧ j' = j) => hk (by rw [q.1]; exact h))], fun _ => rfl, fun _ => rfl⟩
theorem Fr.pA {w : Nat → Prop} {s : St} {k j : Nat} {v : Int32} (h : w k) : Fr w s (pA s k j v) := fun k' hk => ⟨fun _ => rfl, fun j' => by rw [gA_pA, if_neg (fun (q : k' = k ∧ j' = j) => hk (by rw [q.1]; exact h))], fun _ => rfl⟩
theorem Fr.pL {w : Nat → Prop} {s : St} {k j : Nat} {v : Int64} (h : w k) : Fr w s (pL s k j v) := fun k' hk => ⟨fun _ => rfl, fun _ => rfl, fun j' => by rw [gL_pL, if_neg (fun (q : k' = k ∧ j' = j) => hk (by rw [q.1]; exact h))]⟩
theorem Fr.pC {w : Nat → Prop} {s : St} {k : Nat} {g : Nat → Int32} (h : w k) : Fr w s (pC s k g) := fun k' hk => ⟨fun _ => rfl, fun j' => by rw [gA_pC, if_neg (fun (q : k' = k) => hk (by rw [q]; exact h))], fun _ => rfl⟩
theorem CM.fr {w : Nat → Prop} {s t : St} {b mu : Nat} {m : MS} (h : CM s b mu m) (f : Fr w s t) (hw : ∀ k, b ≤ k → k ≤ b + 8 → ¬ w k) : CM t b mu m := by
  obtain ⟨h1, h2, h3, h4, h5, h6, h7⟩ := h
  have g : ∀ k, k ≤ 8 → ∀ j, gA t (b + k) j = gA s (b + k) j := fun k hk j => (f (b + k) (hw _ (by omega) (by omega))).2.1 j
  have g0 : ∀ j, gF t b j = gF s b j := (f b (hw _ (by omega) (by omega))).1
  refine ⟨(g0 _).trans h1, (g0 _).trans h2, (g0 _).trans h3, (g0 _).trans h4, fun i hi => (g 1 (by omega) i).trans (h5 i hi), fun c hc => ⟨(g 2 (by omega) c).trans (h6 c hc).1, (g 3 (by omega) c).trans (h6 c hc).2.1, (g 4 (by omega) c).trans (h6 c hc).2.2⟩, fun p hp => ⟨(g 5 (by omega) p).trans (h7 p hp).1, (g 6 (by omega) p).trans (h7 p hp).2.1, (g 7 (by omega) p).trans (h7 p hp).2.2.1, (g 8 (by omega) p).trans (h7 p hp).2.2.2⟩⟩
theorem s_l : ∀ n, n < 32 → ((nI n &&& 31).toBitVec.smod 32).toNat = n := by decide +kernel
/-- a bit of a small set -/
theorem bit_n {mu p : Nat} (hmu : mu < 2 ^ 31) (hp : p < 31) : ((nI mu >>> (nI p &&& 31)) &&& (1 : Int32)) = bI (mu.testBit p) := by
  rw [pk_shrN hmu _ p (s_l p (by omega))]
  rw [pk_andN (n := mu / 2 ^ p) (by have := Nat.div_le_self mu (2 ^ p); omega) 1 (by decide +kernel)]
  have e : mu.testBit p = decide (mu / 2 ^ p % 2 = 1) := Nat.testBit_eq_decide_div_mod_eq
  rw [e]
  have h2 : mu / 2 ^ p % 2 < 2 := Nat.mod_lt _ (by decide)
  rcases (by omega : mu / 2 ^ p % 2 = 0 ∨ mu / 2 ^ p % 2 = 1) with h | h
  · rw [show (2 : Nat) ^ 1 = 2 from rfl, h]; decide +kernel
  · rw [show (2 : Nat) ^ 1 = 2 from rfl, h]; decide +kernel
