/-! the text: places, words, numbers -/
def blB (T : Nat → Nat) (L i : Nat) : Bool := decide (i < L ∧ T i = 32)
def letB (T : Nat → Nat) (L i : Nat) : Bool := decide (i < L ∧ 97 ≤ T i ∧ T i ≤ 122)
def digB (T : Nat → Nat) (L i : Nat) : Bool := decide (i < L ∧ 48 ≤ T i ∧ T i ≤ 57)
def wh (P : Nat → Bool) : Nat → Nat → Nat
  | 0, p => p
  | f + 1, p => if P p = true then wh P f (p + 1) else p
def sk (T : Nat → Nat) (L p : Nat) : Nat := wh (blB T L) L p
def enL (T : Nat → Nat) (L p : Nat) : Nat := wh (letB T L) L p
def enD (T : Nat → Nat) (L p : Nat) : Nat := wh (digB T L) L p
section WH
variable {P : Nat → Bool} {L : Nat}
theorem wh_ge : ∀ (f p : Nat), p ≤ wh P f p
  | 0, p => Nat.le_refl p
  | f + 1, p => by
    unfold wh
    split
    · have := wh_ge f (p + 1); omega
    · omega
theorem wh_le (hP : ∀ i, P i = true → i < L) : ∀ (f p : Nat), p ≤ L → wh P f p ≤ L
  | 0, p, h => h
  | f + 1, p, h => by
    unfold wh
    split
    · rename_i q; have := hP p q; exact wh_le hP f (p + 1) (by omega)
    · exact h
theorem wh_stop (hP : ∀ i, P i = true → i < L) : ∀ (f p : Nat), L ≤ p + f → P (wh P f p) = false
  | 0, p, h => by
    show P p = false
    cases q : P p
    · rfl
    · have := hP p q; omega
  | f + 1, p, h => by
    unfold wh
    cases q : P p
    · rw [if_neg Bool.false_ne_true]; exact q
    · rw [if_pos rfl]; exact wh_stop hP f (p + 1) (by omega)
theorem wh_in : ∀ (f p i : Nat), p ≤ i → i < wh P f p → P i = true
  | 0, p, i, h1, h2 => by have : i < p := h2; omega
  | f + 1, p, i, h1, h2 => by
    unfold wh at h2
    cases q : P p
    · rw [q, if_neg Bool.false_ne_true] at h2; omega
    · rw [q, if_pos rfl] at h2
      by_cases z : i = p
      · rw [z]; exact q
      · exact wh_in f (p + 1) i (by omega) h2
theorem wh_fix {p : Nat} (h : P p = false) : ∀ f, wh P f p = p
  | 0 => rfl
  | f + 1 => by unfold wh; rw [h, if_neg Bool.false_ne_true]
theorem wh_eq : ∀ (f p e : Nat), p ≤ e → (∀ i, p ≤ i → i < e → P i = true) → P e = false → e ≤ p + f → wh P f p = e
  | 0, p, e, h1, h2, h3, h4 => by show p = e; omega
  | f + 1, p, e, h1, h2, h3, h4 => by
    unfold wh
    by_cases z : p = e
    · subst z; rw [h3, if_neg Bool.false_ne_true]
    · rw [h2 p (Nat.le_refl p) (by omega), if_pos rfl]
      exact wh_eq f (p + 1) e (by omega) (fun i q1 q2 => h2 i (by omega) q2) h3 (by omega)
end WH
theorem allN_iff (T : Nat → Bool) : ∀ k i, allN T k i = true ↔ ∀ x, i ≤ x → x < i + k → T x = true
  | 0, i => ⟨fun _ x h1 h2 => by omega, fun _ => rfl⟩
  | k + 1, i => by
    unfold allN
    cases q : T i
    · rw [if_neg Bool.false_ne_true]
      exact ⟨fun h => Bool.noConfusion h, fun h => by rw [← q]; exact h i (by omega) (by omega)⟩
    · rw [if_pos rfl, allN_iff T k (i + 1)]
      exact ⟨fun h x h1 h2 => by
        by_cases z : x = i
        · rw [z]; exact q
        · exact h x (by omega) (by omega), fun h x h1 h2 => h x (by omega) (by omega)⟩
/-- the words, in the reference's order -/
def wdT : List (List Nat) := [[115, 119, 111, 114, 110], [101, 110, 103, 105, 110, 101, 101, 114], [100, 111, 117, 98, 116, 101, 114], [101, 120, 112, 101, 114, 116], [100, 111, 119, 115, 101, 114], [100, 114, 117, 110, 107, 97, 114, 100], [97, 116], [115, 117, 114, 101], [115, 101, 110, 115, 101], [105, 115], [104, 101, 105, 103, 104, 116], [119, 97, 116, 101, 114], [115, 112, 114, 105, 110, 103], [115, 101, 101, 112], [98, 111, 103], [100, 114, 105, 110, 107]]
def wln (k : Nat) : Nat := (wdT.getD k []).length
def wch (k c : Nat) : Nat := (wdT.getD k []).getD c 0
def rho (k : Nat) : Nat := ([5, 0, 1, 2, 3, 4, 10, 11, 12, 14, 13, 15, 9, 6, 7, 8] : List Nat).getD k 0
theorem rho_l : ∀ k, k < 16 → f_J0_length_8abf5 (2000 + rho k) = some (nI (wln k)) := by decide +kernel
theorem rho_c : ∀ k, k < 16 → ∀ c, c < wln k → f_J0_charAt_5068e (2000 + rho k) (nI c) = some (nI (wch k c)) := by decide +kernel
theorem wch_let : ∀ k, k < 16 → ∀ c, c < wln k → 97 ≤ wch k c ∧ wch k c ≤ 122 := by decide +kernel
theorem wln_b : ∀ k, k < 16 → 0 < wln k ∧ wln k ≤ 8 := by decide +kernel
theorem w_inj : ∀ k, k < 16 → ∀ j, j < 16 → wln k = wln j → (∀ c, c < wln k → wch k c = wch j c) → k = j := by decide +kernel
def isW (T : Nat → Nat) (L b k : Nat) : Bool := decide (b + wln k ≤ L) && (!letB T L (b + wln k) && allN (fun c => decide (T (b + c) = wch k c)) (wln k) 0)
theorem isW_iff {T : Nat → Nat} {L b k : Nat} : isW T L b k = true ↔ (b + wln k ≤ L ∧ letB T L (b + wln k) = false ∧ ∀ c, c < wln k → T (b + c) = wch k c) := by
  unfold isW
  rw [Bool.and_eq_true, Bool.and_eq_true, allN_iff, decide_eq_true_iff]
  constructor
  · rintro ⟨h1, h2, h3⟩
    exact ⟨h1, by cases q : letB T L (b + wln k); rfl; rw [q] at h2; exact Bool.noConfusion h2, fun c hc => of_decide_eq_true (h3 c (by omega) (by omega))⟩
  · rintro ⟨h1, h2, h3⟩
    exact ⟨h1, by rw [h2]; rfl, fun c _ hc => decide_eq_true (h3 c (by omega))⟩
theorem isW_le {T : Nat → Nat} {L b k j : Nat} (hk : k < 16) (h1 : isW T L b k = true) (h2 : isW T L b j = true) : wln k ≤ wln j := by
  obtain ⟨a1, a2, a3⟩ := isW_iff.mp h1
  obtain ⟨b1, b2, b3⟩ := isW_iff.mp h2
  apply Nat.le_of_not_lt
  intro q
  have := wch_let k hk (wln j) q
  rw [← a3 (wln j) q] at this
  have z : letB T L (b + wln j) = true := decide_eq_true ⟨by omega, this.1, this.2⟩
  rw [b2] at z
  exact Bool.noConfusion z
theorem isW_u {T : Nat → Nat} {L b k j : Nat} (hk : k < 16) (hj : j < 16) (h1 : isW T L b k = true) (h2 : isW T L b j = true) : k = j := by
  have e : wln k = wln j := Nat.le_antisymm (isW_le hk h1 h2) (isW_le hj h2 h1)
  obtain ⟨a1, a2, a3⟩ := isW_iff.mp h1
  obtain ⟨b1, b2, b3⟩ := isW_iff.mp h2
  exact w_inj k hk j hj e (fun c hc => (a3 c hc).symm.trans (b3 c (by omega)))
def fw (P : Nat → Bool) : Nat → Nat → Nat
  | 0, k => k
  | j + 1, k => if P k = true then k else fw P j (k + 1)
theorem fw_le (P : Nat → Bool) : ∀ j k, k ≤ fw P j k ∧ fw P j k ≤ k + j
  | 0, k => ⟨Nat.le_refl k, Nat.le_refl k⟩
  | j + 1, k => by
    unfold fw
    have := fw_le P j (k + 1)
    split <;> omega
theorem fw_t (P : Nat → Bool) : ∀ j k, fw P j k < k + j → P (fw P j k) = true
  | 0, k, h => by have : k < k + 0 := h; omega
  | j + 1, k, h => by
    unfold fw at h ⊢
    cases q : P k
    · rw [q, if_neg Bool.false_ne_true] at h
      rw [if_neg Bool.false_ne_true]; exact fw_t P j (k + 1) (by omega)
    · rw [if_pos rfl]; exact q
theorem fw_u (P : Nat → Bool) : ∀ j k r, k ≤ r → r < k + j → P r = true → (∀ i, k ≤ i → i < r → P i = false) → fw P j k = r
  | 0, k, r, h1, h2, _, _ => by omega
  | j + 1, k, r, h1, h2, h3, h4 => by
    unfold fw
    by_cases z : k = r
    · rw [z, h3, if_pos rfl]
    · rw [h4 k (Nat.le_refl k) (by omega), if_neg Bool.false_ne_true]
      exact fw_u P j (k + 1) r (by omega) (by omega) h3 (fun i q1 q2 => h4 i (by omega) q2)
/-- which word stands there: 16, if none -/
def wat (T : Nat → Nat) (L b : Nat) : Nat := fw (isW T L b) 16 0
theorem wat_le (T : Nat → Nat) (L b : Nat) : wat T L b ≤ 16 := (fw_le _ 16 0).2
theorem wat_is {T : Nat → Nat} {L b k : Nat} (hk : k < 16) : isW T L b k = decide (wat T L b = k) := by
  by_cases h : wat T L b = k
  · rw [decide_eq_true h, ← h]; exact fw_t _ 16 0 (by show wat T L b < 0 + 16; omega)
  · rw [decide_eq_false h]
    cases q : isW T L b k
    · rfl
    · exfalso
      apply h
      apply fw_u _ 16 0 k (by omega) (by omega) q
      intro i _ hi
      cases z : isW T L b i
      · rfl
      · have := isW_u (by omega) hk z q; omega
/-- the number of the first j digits -/
def dv (T : Nat → Nat) (b : Nat) : Nat → Nat
  | 0 => 0
  | j + 1 => 10 * dv T b j + (T (b + j) - 48)
def okNum (T : Nat → Nat) (L b most : Nat) : Bool := decide (b < enD T L b ∧ enD T L b - b ≤ 3 ∧ dv T b (enD T L b - b) ≤ most)
theorem bl_P {T : Nat → Nat} {L i : Nat} (h : blB T L i = true) : i < L := (of_decide_eq_true h).1
theorem let_P {T : Nat → Nat} {L i : Nat} (h : letB T L i = true) : i < L := (of_decide_eq_true h).1
theorem dig_P {T : Nat → Nat} {L i : Nat} (h : digB T L i = true) : i < L := (of_decide_eq_true h).1
theorem sk_le {T : Nat → Nat} {L p : Nat} (h : p ≤ L) : sk T L p ≤ L := wh_le (fun _ => bl_P) L p h
theorem sk_ge {T : Nat → Nat} {L p : Nat} : p ≤ sk T L p := wh_ge L p
theorem sk_bl {T : Nat → Nat} {L p : Nat} : blB T L (sk T L p) = false := wh_stop (fun _ => bl_P) L p (by omega)
theorem sk_sk {T : Nat → Nat} {L p : Nat} : sk T L (sk T L p) = sk T L p := wh_fix sk_bl L
theorem enD_le {T : Nat → Nat} {L p : Nat} (h : p ≤ L) : enD T L p ≤ L := wh_le (fun _ => dig_P) L p h
theorem enD_ge {T : Nat → Nat} {L p : Nat} : p ≤ enD T L p := wh_ge L p
theorem enL_le {T : Nat → Nat} {L p : Nat} (h : p ≤ L) : enL T L p ≤ L := wh_le (fun _ => let_P) L p h
theorem enL_ge {T : Nat → Nat} {L p : Nat} : p ≤ enL T L p := wh_ge L p
/-! the reader's state: its place, its fault -/
def rf (fl : Option Nat) (b : Nat) : Option Nat := match fl with
  | none => some b
  | some f => some f
abbrev PQ : Type := Nat × Option Nat
def cNm (T : Nat → Nat) (L k : Nat) (q : PQ) : PQ := if wat T L (sk T L q.1) = k then (sk T L q.1 + wln k, q.2) else (sk T L q.1, rf q.2 (sk T L q.1))
def cNu (T : Nat → Nat) (L most : Nat) (q : PQ) : PQ := (enD T L (sk T L q.1), if okNum T L (sk T L q.1) most = true then q.2 else rf q.2 (sk T L q.1))
def cNv (T : Nat → Nat) (L most : Nat) (q : PQ) : Nat := if (cNu T L most q).2 = none then dv T (sk T L q.1) (enD T L (sk T L q.1) - sk T L q.1) else 0
def cSg (T : Nat → Nat) (L : Nat) (q : PQ) : PQ := if sk T L q.1 < L ∧ T (sk T L q.1) = 59 then (sk T L q.1 + 1, q.2) else (sk T L q.1, rf q.2 (sk T L q.1))
theorem cNv_le {T : Nat → Nat} {L most : Nat} {q : PQ} : cNv T L most q ≤ most := by
  unfold cNv
  by_cases h : (cNu T L most q).2 = none
  · rw [if_pos h]
    unfold cNu at h
    dsimp only at h
    by_cases h2 : okNum T L (sk T L q.1) most = true
    · exact (of_decide_eq_true h2).2.2
    · rw [if_neg h2] at h
      unfold rf at h
      split at h <;> cases h
  · rw [if_neg h]; omega
/-- an optional part: its word, its number -/
def cOp (T : Nat → Nat) (L k most z : Nat) (q : PQ) : Nat × PQ := if wat T L (sk T L q.1) = k then (cNv T L most (cNm T L k (sk T L q.1, q.2)), cNu T L most (cNm T L k (sk T L q.1, q.2))) else (z, (sk T L q.1, q.2))
def cPer (T : Nat → Nat) (L w : Nat) (q : PQ) (g : MS) : PQ × MS :=
  let q1 := if g.1 0 0 < 8 then q else (q.1, rf q.2 q.1)
  let q3 := cNm T L 6 (cNm T L w q1)
  let q4 := cNu T L 31 q3
  let r5 := cOp T L 7 99 50 q4
  let r6 := cOp T L 8 9 0 r5.2
  (r6.2, if r6.2.2 = none then comeS g w r6.1 r5.1 (cNv T L 31 q3) else g)
def cCell (T : Nat → Nat) (L w most f : Nat) (q : PQ) (g : MS) : PQ × MS :=
  let q1 := cNm T L w q
  let q3 := cNm T L 9 (cNu T L 31 q1)
  (cNu T L most q3, setR g f (upN (g.1 f) (cNv T L 31 q1) (cNv T L most q3)))
def cLaw (T : Nat → Nat) (L i : Nat) (q : PQ) (g : MS) : PQ × MS :=
  let q1 := cNm T L (12 + i) q
  (cNu T L (lawMax i) q1, setR g 1 (upN (g.1 1) i (cNv T L (lawMax i) q1)))
/-- a sentence, but for its sign -/
def cSe (T : Nat → Nat) (L : Nat) (q : PQ) (g : MS) : PQ × MS :=
  let b := sk T L q.1
  if wat T L b < 6 then cPer T L (wat T L b) (b, q.2) g
  else if wat T L b = 10 then cCell T L 10 9 2 (b, q.2) g
  else if wat T L b = 11 then cCell T L 11 99 3 (b, q.2) g
  else if 12 ≤ wat T L b ∧ wat T L b < 16 then cLaw T L (wat T L b - 12) (b, q.2) g
  else ((b, rf q.2 b), g)
