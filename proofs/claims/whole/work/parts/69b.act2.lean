/-! the acts in the reference -/
def orn (tr : List Nat) (pa : Bool) (x : Nat) (f : List Nat → AR) : AR := if pa = true then f tr else if tr.length < 30 then f (tr ++ [x]) else none
theorem orn_some {tr : List Nat} {pa : Bool} {x : Nat} {f : List Nat → AR} {r : Int32 × List Nat × Bool} (h : orn tr pa x f = some r) : (pa = true ∧ f tr = some r) ∨ (pa = false ∧ tr.length < 30 ∧ f (tr ++ [x]) = some r) := by
  unfold orn at h
  cases pa
  · rw [if_neg Bool.false_ne_true] at h
    by_cases hl : tr.length < 30
    · rw [if_pos hl] at h; exact Or.inr ⟨rfl, hl, h⟩
    · rw [if_neg hl] at h; cases h
  · rw [if_pos rfl] at h; exact Or.inl ⟨rfl, h⟩
def abN (k : Nat) : Nat := if k = 3 then 1 else if k = 4 then 2 else 0
def rSw (n : Nat) : Nat → Nat → Int32 → List Nat → Bool → AR
  | 0 => fun _ _ _ _ => none
  | f + 1 => fun k x tr pa => if k = 0 then orn tr pa 10 (fun t => some (x + nI n * 3, t, pa)) else if k = 2 then orn tr pa 30 (fun t => ob (rSw n f 0 x t pa) fun v t p => some (v + 1, t, p)) else if k = 3 then orn tr pa 51 (fun t => ob (rSw n f 1 x t pa) fun v t p => some (v ^^^ nI n, t, p)) else if k = 4 then orn tr pa 40 (fun t => ob (rSw n f 2 x t pa) fun v t p => some (0 - v, t, p)) else ob (rSw n f 0 x tr pa) fun v t p => some (v, t, p)
def rDo (k0 n e : Nat) : Nat → Nat → Int32 → List Nat → Bool → AR
  | 0 => fun _ _ _ _ => none
  | f + 1 => fun k x tr pa => if k = 0 then orn tr pa 11 (fun t => ob (rSw n 5 k0 x t pa) fun v t p => some (v - nI e, t, p)) else if k = 1 then orn tr pa 20 (fun t => ob (rDo k0 n e f 0 x t pa) fun v t p => some (v * 2, t, p)) else if k = 4 then orn tr pa 41 (fun t => ob (rDo k0 n e f 2 x t pa) fun v t p => ob (rSw n 5 k0 (nI e) t p) fun v2 t p => some (v + v2, t, p)) else ob (rDo k0 n e f (abN k) x tr pa) fun v t p => some (v, t, p)
def rPa (k0 n e : Nat) (q : Bool) : Nat → Nat → Int32 → List Nat → Bool → AR
  | 0 => fun _ _ _ _ => none
  | f + 1 => fun k x tr pa => if k = 0 then orn tr pa 12 (fun t => if q = true then some (0, t, true) else some (x / (nI e - nI n), t, pa)) else if k = 3 then orn tr pa 50 (fun t => ob (rPa k0 n e q f 1 (x * 4) t pa) fun v t p => some (v - nI e, t, p)) else if k = 5 then orn tr pa 61 (fun t => ob (rPa k0 n e q f 0 x t pa) fun v t p => ob (rSw n 5 k0 (nI n) t p) fun v2 t p => some (v + v2, t, p)) else ob (rPa k0 n e q f (abN k) x tr pa) fun v t p => some (v, t, p)
def rSi (k0 n e : Nat) (q : Bool) : Nat → Nat → Int32 → List Nat → Bool → AR
  | 0 => fun _ _ _ _ => none
  | f + 1 => fun k x tr pa => if k = 0 then orn tr pa 13 (fun t => ob (rDo k0 n e 5 k0 x t pa) fun v t p => some (v ^^^ 9, t, p)) else if k = 2 then orn tr pa 31 (fun t => ob (rSi k0 n e q f 0 x t pa) fun v t p => ob (rPa k0 n e q 5 k0 (nI n) t p) fun v2 t p => some (v - v2, t, p)) else if k = 5 then orn tr pa 60 (fun t => ob (rSi k0 n e q f 0 x t pa) fun v t p => some (50 - v, t, p)) else ob (rSi k0 n e q f (abN k) x tr pa) fun v t p => some (v, t, p)
def rAct (k n e : Nat) (q : Bool) (w : Nat) (x : Int32) : AR := if w = 0 then rSw n 5 k x [] false else if w = 1 then rDo k n e 5 k x [] false else if w = 2 then rPa k n e q 5 k x [] false else rSi k n e q 5 k x [] false
theorem act_all (x : Int32) (n e : Nat) : ∀ (k w : Nat) (q : Bool), k < 6 → w < 4 → ∃ v v' tr pa, cRun k n e q 12 (ownN k w) x [] false = some (v, tr, pa) ∧ rAct k n e q w x = some (v', tr, pa) ∧ (pa = false → v = v') := by
  intro k w q hk hw
  rcases (by omega : k = 0 ∨ k = 1 ∨ k = 2 ∨ k = 3 ∨ k = 4 ∨ k = 5) with rfl | rfl | rfl | rfl | rfl | rfl <;> rcases (by omega : w = 0 ∨ w = 1 ∨ w = 2 ∨ w = 3) with rfl | rfl | rfl | rfl <;> cases q <;> first
    | exact ⟨_, _, _, _, rfl, rfl, fun _ => rfl⟩
    | exact ⟨_, _, _, _, rfl, rfl, fun h => Bool.noConfusion h⟩
/-- the reference's acting -/
def RC (s : St) (d : Nat) (m : MS) (n : Nat) (tr : List Nat) (pa : Bool) : Prop := gF s d 23 = nI tr.length ∧ tr.length ≤ 30 ∧ (∀ i, i < tr.length → gA s (d + 14) i = nI (tr.getD i 0)) ∧ gF s d 24 = nI n ∧ gF s d 25 = bI pa ∧ MM s d 0 m
def FrR (d : Nat) (s t : St) : Prop := Fr2 (fun k => k = d + 14) (fun k j => k = d ∧ 23 ≤ j ∧ j ≤ 25) s t
section ACTR
variable {s : St} {b d n : Nat} {q : Bool} {m : MS}
theorem ran_ok {tr : List Nat} {pa : Bool} (h : RC s d m n tr pa) {x : Nat} {f : List Nat → AR} {r : Int32 × List Nat × Bool} (hr : orn tr pa x f = some r) : ∃ s' t, f_X4_ran d (nI x) s = some s' ∧ RC s' d m n t pa ∧ FrR d s s' ∧ f t = some r := by
  obtain ⟨h1, h2, h3, h4, h5, h6⟩ := h
  rcases orn_some hr with ⟨rfl, hf⟩ | ⟨rfl, hl, hf⟩
  · refine ⟨s, tr, ?_, ⟨h1, h2, h3, h4, h5, h6⟩, Fr2.rf, hf⟩
    unfold f_X4_ran
    rw [h5, if_neg (show ¬ bI true = 0 by decide)]
    split <;> rfl
  · have el : (tr ++ [x]).length = tr.length + 1 := by simp
    refine ⟨pF (pA s (d + 14) tr.length (nI x)) d 23 (nI (tr.length + 1)), tr ++ [x], ?_, ⟨?_, by omega, fun i hi => ?_, ?_, ?_, ?_, ?_⟩, (Fr.to2 (Fr.pA (w := fun k => k = d + 14) rfl)).tr (Fr2.pF (u := fun k j => k = d ∧ 23 ≤ j ∧ j ≤ 25) ⟨rfl, by omega, by omega⟩), hf⟩
    · unfold f_X4_ran
      rw [h1, h5, if_neg (by rw [li_30]; exact nI_ge hl (by omega)), if_pos bf_eq, gd_n hl (by omega), ix_n (by omega), bn_e, bn_e, gF_pA, h1, nI_1]
    · rw [gF_pF, if_pos ⟨rfl, rfl⟩, el]
    · rw [gA_pF, gA_pA, getD_app]
      by_cases y : i = tr.length
      · rw [if_pos ⟨rfl, y⟩, if_neg (by omega), if_pos y]
      · rw [if_neg (fun t => y t.2), if_pos (by omega)]; exact h3 i (by omega)
    · rw [gF_pF, if_neg (by omega)]; exact h4
    · rw [gF_pF, if_neg (by omega)]; exact h5
    · show RM (gA (pA s (d + 14) tr.length (nI x)) (d + 1)) m
      rw [show gA (pA s (d + 14) tr.length (nI x)) (d + 1) = gA s (d + 1) from funext fun j => by rw [gA_pA, if_neg (by omega)]]
      exact h6.1
    · rw [gF_pF, if_neg (by omega)]; exact h6.2
theorem ab_ok : ∀ k, k < 6 → f_X4_above (nI k) = some (nI (abN k)) := by decide +kernel
theorem ab_lt (k : Nat) : abN k < 6 := by
  unfold abN
  split
  · omega
  · split <;> omega
theorem sw_ok : ∀ (f g k : Nat) (x : Int32) (s : St) (tr : List Nat) (pa : Bool) (v : Int32) (tr' : List Nat) (pa' : Bool), f ≤ g → k < 6 → RC s d m n tr pa → rSw n f k x tr pa = some (v, tr', pa') → ∃ s', f_X4_swearsBy g d (nI k) x s = some (v, s') ∧ RC s' d m n tr' pa' ∧ FrR d s s' := by
  intro f
  induction f with
  | zero => intro g k x s tr pa v tr' pa' _ _ _ h; cases h
  | succ f ih =>
    intro g k x s tr pa v tr' pa' hg hk hR h
    obtain ⟨g, rfl⟩ : ∃ j, g = j + 1 := ⟨g - 1, by omega⟩
    unfold rSw at h
    show ∃ s', (if nI k = (0 : Int32) then _ else _) = _ ∧ _
    rcases (by omega : k = 0 ∨ k = 1 ∨ k = 2 ∨ k = 3 ∨ k = 4 ∨ k = 5) with rfl | rfl | rfl | rfl | rfl | rfl
    · rw [if_pos rfl] at h
      obtain ⟨s1, t1, e1, R1, f1, h1⟩ := ran_ok hR h
      cases h1
      exact ⟨s1, by rw [if_pos (by decide), show f_X4_ran d (10 : Int32) s = some s1 from e1, cw_s, R1.2.2.2.1], R1, f1⟩
    · rw [if_neg (by decide), if_neg (by decide), if_neg (by decide), if_neg (by decide)] at h
      obtain ⟨v1, t1, p1, h1, h2⟩ := ob_some h
      cases h2
      obtain ⟨s2, e2, R2, f2⟩ := ih g 0 x s _ _ _ _ _ (by omega) (by omega) hR h1
      exact ⟨s2, by rw [if_neg (by decide), if_neg (by decide), if_neg (by decide), if_neg (by decide), show f_X4_swearsBy g d (0 : Int32) x s = some (v, s2) from e2, cb_s], R2, f2⟩
    · rw [if_neg (by decide), if_pos rfl] at h
      obtain ⟨s1, t1, e1, R1, f1, h1⟩ := ran_ok hR h
      obtain ⟨v1, t2, p1, h2, h3⟩ := ob_some h1
      cases h3
      obtain ⟨s2, e2, R2, f2⟩ := ih g 0 x s1 _ _ _ _ _ (by omega) (by omega) R1 h2
      exact ⟨s2, by rw [if_neg (by decide), if_pos (by decide), show f_X4_ran d (30 : Int32) s = some s1 from e1, cw_s, show f_X4_swearsBy g d (0 : Int32) x s1 = some (v1, s2) from e2, cb_s], R2, f1.tr f2⟩
    · rw [if_neg (by decide), if_neg (by decide), if_pos rfl] at h
      obtain ⟨s1, t1, e1, R1, f1, h1⟩ := ran_ok hR h
      obtain ⟨v1, t2, p1, h2, h3⟩ := ob_some h1
      cases h3
      obtain ⟨s2, e2, R2, f2⟩ := ih g 1 x s1 _ _ _ _ _ (by omega) (by omega) R1 h2
      exact ⟨s2, by rw [if_neg (by decide), if_neg (by decide), if_pos (by decide), show f_X4_ran d (51 : Int32) s = some s1 from e1, cw_s, show f_X4_swearsBy g d (1 : Int32) x s1 = some (v1, s2) from e2, cb_s, R2.2.2.2.1], R2, f1.tr f2⟩
    · rw [if_neg (by decide), if_neg (by decide), if_neg (by decide), if_pos rfl] at h
      obtain ⟨s1, t1, e1, R1, f1, h1⟩ := ran_ok hR h
      obtain ⟨v1, t2, p1, h2, h3⟩ := ob_some h1
      cases h3
      obtain ⟨s2, e2, R2, f2⟩ := ih g 2 x s1 _ _ _ _ _ (by omega) (by omega) R1 h2
      exact ⟨s2, by rw [if_neg (by decide), if_neg (by decide), if_neg (by decide), if_pos (by decide), show f_X4_ran d (40 : Int32) s = some s1 from e1, cw_s, show f_X4_swearsBy g d (2 : Int32) x s1 = some (v1, s2) from e2, cb_s], R2, f1.tr f2⟩
    · rw [if_neg (by decide), if_neg (by decide), if_neg (by decide), if_neg (by decide)] at h
      obtain ⟨v1, t1, p1, h1, h2⟩ := ob_some h
      cases h2
      obtain ⟨s2, e2, R2, f2⟩ := ih g 0 x s _ _ _ _ _ (by omega) (by omega) hR h1
      exact ⟨s2, by rw [if_neg (by decide), if_neg (by decide), if_neg (by decide), if_neg (by decide), show f_X4_swearsBy g d (0 : Int32) x s = some (v, s2) from e2, cb_s], R2, f2⟩
theorem g0_ok {tr : List Nat} {pa : Bool} (h : RC s d m n tr pa) (hB : BM m) (hn : n < m.1 0 0) : f_X4_get d (gF s d 24) (0 : Int32) s = some (nI (m.1 5 n)) := by
  rw [h.2.2.2.1]; exact r_g0 h.2.2.2.2.2 hB.1 hn
theorem g1_ok {tr : List Nat} {pa : Bool} (h : RC s d m n tr pa) (hB : BM m) (hn : n < m.1 0 0) : f_X4_get d (gF s d 24) (1 : Int32) s = some (nI (m.1 6 n)) := by
  rw [h.2.2.2.1]; exact r_g1 h.2.2.2.2.2 hB.1 hn
theorem do_ok (hB : BM m) (hn : n < m.1 0 0) : ∀ (f g k : Nat) (x : Int32) (s : St) (tr : List Nat) (pa : Bool) (v : Int32) (tr' : List Nat) (pa' : Bool), f ≤ g → k < 6 → RC s d m n tr pa → rDo (m.1 5 n) n (m.1 6 n) f k x tr pa = some (v, tr', pa') → ∃ s', f_X4_doubtsBy g d (nI k) x s = some (v, s') ∧ RC s' d m n tr' pa' ∧ FrR d s s' := by
  have b5 := (hB.2.2.2.2.2 n hn).1
  intro f
  induction f with
  | zero => intro g k x s tr pa v tr' pa' _ _ _ h; cases h
  | succ f ih =>
    intro g k x s tr pa v tr' pa' hg hk hR h
    obtain ⟨g, rfl⟩ : ∃ j, g = j + 1 := ⟨g - 1, by omega⟩
    unfold rDo at h
    show ∃ s', (if nI k = (0 : Int32) then _ else _) = _ ∧ _
    have other : (¬ k = 0) → (¬ k = 1) → (¬ k = 4) → ∃ s', (cp (f_X4_above (nI k)) fun x16 => cb (f_X4_doubtsBy g d x16 x s) fun x18 s17 => some (x18, s17)) = some (v, s') ∧ RC s' d m n tr' pa' ∧ FrR d s s' := by
      intro k0 k1 k4
      rw [if_neg k0, if_neg k1, if_neg k4] at h
      obtain ⟨v1, t1, p1, h1, h2⟩ := ob_some h
      cases h2
      obtain ⟨s2, e2, R2, f2⟩ := ih g (abN k) x s _ _ _ _ _ (by omega) (ab_lt k) hR h1
      exact ⟨s2, by rw [ab_ok k hk, cp_s, e2, cb_s], R2, f2⟩
    rcases (by omega : k = 0 ∨ k = 1 ∨ k = 2 ∨ k = 3 ∨ k = 4 ∨ k = 5) with rfl | rfl | rfl | rfl | rfl | rfl
    · rw [if_pos rfl] at h
      obtain ⟨s1, t1, e1, R1, f1, h1⟩ := ran_ok hR h
      obtain ⟨v1, t2, p1, h2, h3⟩ := ob_some h1
      cases h3
      obtain ⟨s2, e2, R2, f2⟩ := sw_ok 5 60 (m.1 5 n) x s1 _ _ _ _ _ (by omega) (by omega) R1 h2
      exact ⟨s2, by rw [if_pos (by decide), show f_X4_ran d (11 : Int32) s = some s1 from e1, cw_s, g0_ok R1 hB hn, cp_s, e2, cb_s, g1_ok R2 hB hn, cp_s], R2, f1.tr f2⟩
    · rw [if_neg (by decide), if_pos rfl] at h
      obtain ⟨s1, t1, e1, R1, f1, h1⟩ := ran_ok hR h
      obtain ⟨v1, t2, p1, h2, h3⟩ := ob_some h1
      cases h3
      obtain ⟨s2, e2, R2, f2⟩ := ih g 0 x s1 _ _ _ _ _ (by omega) (by omega) R1 h2
      exact ⟨s2, by rw [if_neg (by decide), if_pos (by decide), show f_X4_ran d (20 : Int32) s = some s1 from e1, cw_s, show f_X4_doubtsBy g d (0 : Int32) x s1 = some (v1, s2) from e2, cb_s], R2, f1.tr f2⟩
    · rw [if_neg (by decide), if_neg (by decide), if_neg (by decide)]; exact other (by decide) (by decide) (by decide)
    · rw [if_neg (by decide), if_neg (by decide), if_neg (by decide)]; exact other (by decide) (by decide) (by decide)
    · rw [if_neg (by decide), if_neg (by decide), if_pos rfl] at h
      obtain ⟨s1, t1, e1, R1, f1, h1⟩ := ran_ok hR h
      obtain ⟨v1, t2, p1, h2, h3⟩ := ob_some h1
      obtain ⟨v2, t3, p2, h4, h5⟩ := ob_some h3
      cases h5
      obtain ⟨s2, e2, R2, f2⟩ := ih g 2 x s1 _ _ _ _ _ (by omega) (by omega) R1 h2
      obtain ⟨s3, e3, R3, f3⟩ := sw_ok 5 60 (m.1 5 n) (nI (m.1 6 n)) s2 _ _ _ _ _ (by omega) (by omega) R2 h4
      exact ⟨s3, by rw [if_neg (by decide), if_neg (by decide), if_pos (by decide), show f_X4_ran d (41 : Int32) s = some s1 from e1, cw_s, show f_X4_doubtsBy g d (2 : Int32) x s1 = some (v1, s2) from e2, cb_s, g0_ok R2 hB hn, cp_s, g1_ok R2 hB hn, cp_s, e3, cb_s], R3, (f1.tr f2).tr f3⟩
    · rw [if_neg (by decide), if_neg (by decide), if_neg (by decide)]; exact other (by decide) (by decide) (by decide)
theorem pa_ok (hB : BM m) (hn : n < m.1 0 0) : ∀ (f g k : Nat) (x : Int32) (s : St) (tr : List Nat) (pa : Bool) (v : Int32) (tr' : List Nat) (pa' : Bool), f ≤ g → k < 6 → RC s d m n tr pa → rPa (m.1 5 n) n (m.1 6 n) (decide (m.1 6 n = n)) f k x tr pa = some (v, tr', pa') → ∃ s', f_X4_partsBy g d (nI k) x s = some (v, s') ∧ RC s' d m n tr' pa' ∧ FrR d s s' := by
  have b5 := (hB.2.2.2.2.2 n hn).1
  have b6 := (hB.2.2.2.2.2 n hn).2.1
  have h8 := hB.1
  intro f
  induction f with
  | zero => intro g k x s tr pa v tr' pa' _ _ _ h; cases h
  | succ f ih =>
    intro g k x s tr pa v tr' pa' hg hk hR h
    obtain ⟨g, rfl⟩ : ∃ j, g = j + 1 := ⟨g - 1, by omega⟩
    unfold rPa at h
    show ∃ s', (if nI k = (0 : Int32) then _ else _) = _ ∧ _
    have other : (¬ k = 0) → (¬ k = 3) → (¬ k = 5) → ∃ s', (cp (f_X4_above (nI k)) fun x17 => cb (f_X4_partsBy g d x17 x s) fun x19 s18 => some (x19, s18)) = some (v, s') ∧ RC s' d m n tr' pa' ∧ FrR d s s' := by
      intro k0 k1 k4
      rw [if_neg k0, if_neg k1, if_neg k4] at h
      obtain ⟨v1, t1, p1, h1, h2⟩ := ob_some h
      cases h2
      obtain ⟨s2, e2, R2, f2⟩ := ih g (abN k) x s _ _ _ _ _ (by omega) (ab_lt k) hR h1
      exact ⟨s2, by rw [ab_ok k hk, cp_s, e2, cb_s], R2, f2⟩
    rcases (by omega : k = 0 ∨ k = 1 ∨ k = 2 ∨ k = 3 ∨ k = 4 ∨ k = 5) with rfl | rfl | rfl | rfl | rfl | rfl
    · rw [if_pos rfl] at h
      obtain ⟨s1, t1, e1, R1, f1, h1⟩ := ran_ok hR h
      obtain ⟨z1, _⟩ := ene (m.1 6 n) (by omega) n (by omega)
      rw [if_pos (by decide), show f_X4_ran d (12 : Int32) s = some s1 from e1, cw_s, g1_ok R1 hB hn, cp_s, bn_e, bn_e, R1.2.2.2.1, R1.2.2.2.2.1]
      dsimp only
      have S : ∀ p : Bool, ∃ s2, s2 = pF s1 d 25 (bI p) ∧ RC s2 d m n t1 p ∧ FrR d s1 s2 := fun p => ⟨_, rfl, ⟨by rw [gF_pF, if_neg (by omega)]; exact R1.1, R1.2.1, R1.2.2.1, by rw [gF_pF, if_neg (by omega)]; exact R1.2.2.2.1, by rw [gF_pF, if_pos ⟨rfl, rfl⟩], R1.2.2.2.2.2.1, by rw [gF_pF, if_neg (by omega)]; exact R1.2.2.2.2.2.2⟩, Fr2.pF ⟨rfl, by omega, by omega⟩⟩
      by_cases y : m.1 6 n = n
      · rw [if_pos (decide_eq_true y)] at h1
        cases h1
        obtain ⟨s2, e2, R2, f2⟩ := S true
        refine ⟨s2, ?_, R2, f1.tr f2⟩
        rw [if_pos (z1.mpr y), gd_p (show zb (1 : Int32) = true by decide), bn_e, if_pos (z1.mpr y), show pF s1 d 25 (1 : Int32) = s2 from e2.symm]
        split <;> rfl
      · rw [if_neg (fun t => y (of_decide_eq_true t))] at h1
        cases h1
        obtain ⟨s2, e2, R2, f2⟩ := S pa
        refine ⟨s2, ?_, R2, f1.tr f2⟩
        rw [if_neg (fun t => y (z1.mp t)), gd_p (show zb (0 : Int32) = true by decide), gd_p (show zb (1 : Int32) = true by decide), bn_e, bn_e, if_neg (fun t => y (z1.mp t)), if_neg (fun t => y (z1.mp t)), if_neg (fun t => y (z1.mp t)), if_neg (fun t => y (z1.mp t)), e2]
        cases pa
        · rw [if_pos bf_eq]; rfl
        · rw [if_neg bt_ne]; rfl
    · rw [if_neg (by decide), if_neg (by decide), if_neg (by decide)]; exact other (by decide) (by decide) (by decide)
    · rw [if_neg (by decide), if_neg (by decide), if_neg (by decide)]; exact other (by decide) (by decide) (by decide)
    · rw [if_neg (by decide), if_pos rfl] at h
      obtain ⟨s1, t1, e1, R1, f1, h1⟩ := ran_ok hR h
      obtain ⟨v1, t2, p1, h2, h3⟩ := ob_some h1
      cases h3
      obtain ⟨s2, e2, R2, f2⟩ := ih g 1 (x * 4) s1 _ _ _ _ _ (by omega) (by omega) R1 h2
      exact ⟨s2, by rw [if_neg (by decide), if_pos (by decide), show f_X4_ran d (50 : Int32) s = some s1 from e1, cw_s, show f_X4_partsBy g d (1 : Int32) (x * 4) s1 = some (v1, s2) from e2, cb_s, g1_ok R2 hB hn, cp_s], R2, f1.tr f2⟩
    · rw [if_neg (by decide), if_neg (by decide), if_neg (by decide)]; exact other (by decide) (by decide) (by decide)
    · rw [if_neg (by decide), if_neg (by decide), if_pos rfl] at h
      obtain ⟨s1, t1, e1, R1, f1, h1⟩ := ran_ok hR h
      obtain ⟨v1, t2, p1, h2, h3⟩ := ob_some h1
      obtain ⟨v2, t3, p2, h4, h5⟩ := ob_some h3
      cases h5
      obtain ⟨s2, e2, R2, f2⟩ := ih g 0 x s1 _ _ _ _ _ (by omega) (by omega) R1 h2
      obtain ⟨s3, e3, R3, f3⟩ := sw_ok 5 60 (m.1 5 n) (nI n) s2 _ _ _ _ _ (by omega) (by omega) R2 h4
      exact ⟨s3, by rw [if_neg (by decide), if_neg (by decide), if_pos (by decide), show f_X4_ran d (61 : Int32) s = some s1 from e1, cw_s, show f_X4_partsBy g d (0 : Int32) x s1 = some (v1, s2) from e2, cb_s, g0_ok R2 hB hn, cp_s, R2.2.2.2.1, e3, cb_s], R3, (f1.tr f2).tr f3⟩
theorem si_ok (hB : BM m) (hn : n < m.1 0 0) : ∀ (f g k : Nat) (x : Int32) (s : St) (tr : List Nat) (pa : Bool) (v : Int32) (tr' : List Nat) (pa' : Bool), f ≤ g → k < 6 → RC s d m n tr pa → rSi (m.1 5 n) n (m.1 6 n) (decide (m.1 6 n = n)) f k x tr pa = some (v, tr', pa') → ∃ s', f_X4_signsBy g d (nI k) x s = some (v, s') ∧ RC s' d m n tr' pa' ∧ FrR d s s' := by
  have b5 := (hB.2.2.2.2.2 n hn).1
  intro f
  induction f with
  | zero => intro g k x s tr pa v tr' pa' _ _ _ h; cases h
  | succ f ih =>
    intro g k x s tr pa v tr' pa' hg hk hR h
    obtain ⟨g, rfl⟩ : ∃ j, g = j + 1 := ⟨g - 1, by omega⟩
    unfold rSi at h
    show ∃ s', (if nI k = (0 : Int32) then _ else _) = _ ∧ _
    have other : (¬ k = 0) → (¬ k = 2) → (¬ k = 5) → ∃ s', (cp (f_X4_above (nI k)) fun x14 => cb (f_X4_signsBy g d x14 x s) fun x16 s15 => some (x16, s15)) = some (v, s') ∧ RC s' d m n tr' pa' ∧ FrR d s s' := by
      intro k0 k1 k4
      rw [if_neg k0, if_neg k1, if_neg k4] at h
      obtain ⟨v1, t1, p1, h1, h2⟩ := ob_some h
      cases h2
      obtain ⟨s2, e2, R2, f2⟩ := ih g (abN k) x s _ _ _ _ _ (by omega) (ab_lt k) hR h1
      exact ⟨s2, by rw [ab_ok k hk, cp_s, e2, cb_s], R2, f2⟩
    rcases (by omega : k = 0 ∨ k = 1 ∨ k = 2 ∨ k = 3 ∨ k = 4 ∨ k = 5) with rfl | rfl | rfl | rfl | rfl | rfl
    · rw [if_pos rfl] at h
      obtain ⟨s1, t1, e1, R1, f1, h1⟩ := ran_ok hR h
      obtain ⟨v1, t2, p1, h2, h3⟩ := ob_some h1
      cases h3
      obtain ⟨s2, e2, R2, f2⟩ := do_ok hB hn 5 60 (m.1 5 n) x s1 _ _ _ _ _ (by omega) (by omega) R1 h2
      exact ⟨s2, by rw [if_pos (by decide), show f_X4_ran d (13 : Int32) s = some s1 from e1, cw_s, g0_ok R1 hB hn, cp_s, e2, cb_s], R2, f1.tr f2⟩
    · rw [if_neg (by decide), if_neg (by decide), if_neg (by decide)]; exact other (by decide) (by decide) (by decide)
    · rw [if_neg (by decide), if_pos rfl] at h
      obtain ⟨s1, t1, e1, R1, f1, h1⟩ := ran_ok hR h
      obtain ⟨v1, t2, p1, h2, h3⟩ := ob_some h1
      obtain ⟨v2, t3, p2, h4, h5⟩ := ob_some h3
      cases h5
      obtain ⟨s2, e2, R2, f2⟩ := ih g 0 x s1 _ _ _ _ _ (by omega) (by omega) R1 h2
      obtain ⟨s3, e3, R3, f3⟩ := pa_ok hB hn 5 60 (m.1 5 n) (nI n) s2 _ _ _ _ _ (by omega) (by omega) R2 h4
      exact ⟨s3, by rw [if_neg (by decide), if_pos (by decide), show f_X4_ran d (31 : Int32) s = some s1 from e1, cw_s, show f_X4_signsBy g d (0 : Int32) x s1 = some (v1, s2) from e2, cb_s, g0_ok R2 hB hn, cp_s, R2.2.2.2.1, e3, cb_s], R3, (f1.tr f2).tr f3⟩
    · rw [if_neg (by decide), if_neg (by decide), if_neg (by decide)]; exact other (by decide) (by decide) (by decide)
    · rw [if_neg (by decide), if_neg (by decide), if_neg (by decide)]; exact other (by decide) (by decide) (by decide)
    · rw [if_neg (by decide), if_neg (by decide), if_pos rfl] at h
      obtain ⟨s1, t1, e1, R1, f1, h1⟩ := ran_ok hR h
      obtain ⟨v1, t2, p1, h2, h3⟩ := ob_some h1
      cases h3
      obtain ⟨s2, e2, R2, f2⟩ := ih g 0 x s1 _ _ _ _ _ (by omega) (by omega) R1 h2
      exact ⟨s2, by rw [if_neg (by decide), if_neg (by decide), if_pos (by decide), show f_X4_ran d (60 : Int32) s = some s1 from e1, cw_s, show f_X4_signsBy g d (0 : Int32) x s1 = some (v1, s2) from e2, cb_s], R2, f1.tr f2⟩
end ACTR
