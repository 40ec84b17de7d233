/-! the reference's reader: tokens -/
def wdW (k c : Nat) : Nat := if c < wln k then wch k c else 32
/-- the words' row -/
def XW (s : St) (d : Nat) : Prop := ∀ k, k < 16 → ∀ c, c < 8 → gA s (d + 6) (8 * k + c) = nI (wdW k c)
def RT (s : St) (d L : Nat) (T : Nat → Nat) (p : Nat) : Prop := gF s d 7 = nI L ∧ gF s d 8 = nI p ∧ p ≤ L ∧ L ≤ 200 ∧ (∀ i, i < L → T i < 256 ∧ gA s (d + 5) i = nI (T i)) ∧ XW s d
def FrN (d : Nat) (s t : St) : Prop := Fr2 (fun _ => False) (fun k j => k = d ∧ (8 ≤ j ∧ j ≤ 13)) s t
theorem FrN.t {d : Nat} {s t u : St} (h : FrN d s t) (k : FrN d t u) : FrN d s u := Fr2.tr h k
theorem f_N {d j : Nat} {s : St} {x : Int32} (h1 : 8 ≤ j) (h2 : j ≤ 13) : FrN d s (pF s d j x) := Fr2.pF ⟨rfl, h1, h2⟩
/-- the reference's value of the first j digits -/
def rvn (T : Nat → Nat) (b : Nat) : Nat → Nat
  | 0 => 0
  | j + 1 => if j < 3 then 10 * rvn T b j + (T (b + j) - 48) else 1000
theorem rvn_dv (T : Nat → Nat) (b : Nat) : ∀ j, j ≤ 3 → rvn T b j = dv T b j
  | 0, _ => rfl
  | j + 1, h => by
    show (if j < 3 then 10 * rvn T b j + (T (b + j) - 48) else 1000) = 10 * dv T b j + (T (b + j) - 48)
    rw [if_pos (by omega), rvn_dv T b j (by omega)]
theorem rvn_le {T : Nat → Nat} {b : Nat} : ∀ j, (∀ i, i < j → T (b + i) ≤ 57) → rvn T b j ≤ 1000
  | 0, _ => by show 0 ≤ 1000; omega
  | j + 1, h => by
    show (if j < 3 then 10 * rvn T b j + (T (b + j) - 48) else 1000) ≤ 1000
    by_cases q : j < 3
    · have h1 := dv_lt (T := T) (b := b) (j + 1) h
      have h3 : (10 : Nat) ^ (j + 1) ≤ 10 ^ 3 := Nat.pow_le_pow_right (by decide) (by omega)
      rw [if_pos q, rvn_dv T b j (by omega)]
      have : dv T b (j + 1) = 10 * dv T b j + (T (b + j) - 48) := rfl
      omega
    · rw [if_neg q]; omega
/-- token, end and value -/
def tkN (T : Nat → Nat) (L B : Nat) : Nat := if B = L then 0 else if letB T L B = true then 1 else if digB T L B = true then 2 else if T B = 59 then 3 else 4
def edN (T : Nat → Nat) (L B : Nat) : Nat := if B = L then L else if letB T L B = true then enL T L B else if digB T L B = true then enD T L B else B + 1
def vlN (T : Nat → Nat) (L B : Nat) : Int32 := if B = L then 0 else if letB T L B = true then (if wat T L B < 16 then nI (wat T L B) else -1) else if digB T L B = true then nI (rvn T B (enD T L B - B)) else 0
def NX (s : St) (d L : Nat) (T : Nat → Nat) (B : Nat) : Prop := RT s d L T (edN T L B) ∧ gF s d 9 = nI B ∧ gF s d 10 = nI (tkN T L B) ∧ gF s d 11 = vlN T L B
def likeB (T : Nat → Nat) (B e k : Nat) : Bool := decide (e - B ≤ 8) && allN (fun c => decide (wdW k c = if B + c < e then T (B + c) else 32)) 8 0
theorem like_is {T : Nat → Nat} {L B k : Nat} (hk : k < 16) (hB : B ≤ L) : likeB T B (enL T L B) k = isW T L B k := by
  have w8 := wln_b k hk
  have hge : B ≤ enL T L B := enL_ge
  have hle : enL T L B ≤ L := enL_le hB
  have hst : letB T L (enL T L B) = false := wh_stop (fun _ => let_P) L B (by omega)
  have hin : ∀ i, B ≤ i → i < enL T L B → letB T L i = true := fun i h1 h2 => wh_in (P := letB T L) L B i h1 h2
  have key : likeB T B (enL T L B) k = true ↔ isW T L B k = true := by
    unfold likeB
    rw [isW_iff, Bool.and_eq_true, decide_eq_true_iff, allN_iff]
    constructor
    · rintro ⟨h1, h2⟩
      have h2' : ∀ c, c < 8 → wdW k c = if B + c < enL T L B then T (B + c) else 32 := fun c hc => of_decide_eq_true (h2 c (by omega) (by omega))
      have e1 : ∀ c, c < enL T L B - B → c < wln k := by
        intro c hc
        have := h2' c (by omega)
        rw [if_pos (by omega)] at this
        have l := of_decide_eq_true (hin (B + c) (by omega) (by omega))
        unfold wdW at this
        by_cases z : c < wln k
        · exact z
        · rw [if_neg z] at this; omega
      have e2 : ∀ c, c < wln k → c < enL T L B - B := by
        intro c hc
        have := h2' c (by omega)
        have l := wch_let k hk c hc
        unfold wdW at this
        rw [if_pos hc] at this
        by_cases z : B + c < enL T L B
        · omega
        · rw [if_neg z] at this; omega
      have e3 : B + wln k = enL T L B := by
        have a1 : wln k ≤ enL T L B - B := by
          have := e2 (wln k - 1) (by omega); omega
        have a2 : enL T L B - B ≤ wln k := by
          by_cases z : enL T L B - B = 0
          · omega
          · have := e1 (enL T L B - B - 1) (by omega); omega
        omega
      refine ⟨by omega, by rw [e3]; exact hst, fun c hc => ?_⟩
      have := h2' c (by omega)
      rw [if_pos (by omega)] at this
      unfold wdW at this
      rw [if_pos hc] at this
      exact this.symm
    · rintro ⟨h1, h2, h3⟩
      have e : enL T L B = B + wln k := wh_eq L B (B + wln k) (by omega) (fun i q1 q2 => by
        have l := wch_let k hk (i - B) (by omega)
        have := h3 (i - B) (by omega)
        rw [show B + (i - B) = i by omega] at this
        exact decide_eq_true ⟨by omega, by omega, by omega⟩) h2 (by omega)
      rw [e]
      refine ⟨by omega, fun c _ hc => decide_eq_true ?_⟩
      unfold wdW
      by_cases z : c < wln k
      · rw [if_pos z, if_pos (by omega)]; exact (h3 c z).symm
      · rw [if_neg z, if_neg (by omega)]
  cases h1 : likeB T B (enL T L B) k <;> cases h2 : isW T L B k
  · rfl
  · exact absurd (key.mpr h2) (by rw [h1]; exact Bool.false_ne_true)
  · exact absurd (key.mp h1) (by rw [h2]; exact Bool.false_ne_true)
  · rfl
section READR
variable {s : St} {d L : Nat} {T : Nat → Nat} {p : Nat}
theorem RT.at (h : RT s d L T p) {x : Nat} (hx : x ≤ L) : RT (pF s d 8 (nI x)) d L T x := by
  obtain ⟨h1, h2, h3, h4, h5, h6⟩ := h
  exact ⟨by rw [gF_pF, if_neg (by omega)]; exact h1, by rw [gF_pF, if_pos ⟨rfl, rfl⟩], hx, h4, h5, h6⟩
theorem RT.pF (h : RT s d L T p) {j : Nat} (h1 : 9 ≤ j) (x : Int32) : RT (pF s d j x) d L T p := by
  obtain ⟨h1, h2, h3, h4, h5, h6⟩ := h
  exact ⟨by rw [gF_pF, if_neg (by omega)]; exact h1, by rw [gF_pF, if_neg (by omega)]; exact h2, h3, h4, h5, h6⟩
theorem r_isRow (h : RT s d L T p) : f_X4_isRow d (97 : Int32) (122 : Int32) s = some (bI (letB T L p)) ∧ f_X4_isRow d (48 : Int32) (57 : Int32) s = some (bI (digB T L p)) := by
  obtain ⟨h1, h2, h3, h4, h5, h6⟩ := h
  unfold f_X4_isRow
  rw [h1, h2]
  by_cases z : L ≤ p
  · rw [if_pos (nI_le z (by omega)), if_pos (nI_le z (by omega)), show letB T L p = false from decide_eq_false (fun w => by omega), show digB T L p = false from decide_eq_false (fun w => by omega)]
    exact ⟨rfl, rfl⟩
  · obtain ⟨i1, i2⟩ := h5 p (by omega)
    rw [if_neg (nI_ge (by omega) (by omega)), if_neg (nI_ge (by omega) (by omega)), gd_n (show p < 200 by omega) (by omega), gd_n (show p < 200 by omega) (by omega), ix_n (by omega), i2, r_inLo, r_inLo, cp_s, cp_s, nI_toInt (by omega), show ((97 : Int32).toInt64).toInt = 97 from rfl, show ((122 : Int32).toInt64).toInt = 122 from rfl, show ((48 : Int32).toInt64).toInt = 48 from rfl, show ((57 : Int32).toInt64).toInt = 57 from rfl]
    constructor
    · by_cases y : (97 : Int) ≤ (T p : Int) ∧ (T p : Int) ≤ 122
      · rw [decide_eq_true y, show letB T L p = true from decide_eq_true (by omega)]; rfl
      · rw [decide_eq_false y, show letB T L p = false from decide_eq_false (fun w => by omega)]; rfl
    · by_cases y : (48 : Int) ≤ (T p : Int) ∧ (T p : Int) ≤ 57
      · rw [decide_eq_true y, show digB T L p = true from decide_eq_true (by omega)]; rfl
      · rw [decide_eq_false y, show digB T L p = false from decide_eq_false (fun w => by omega)]; rfl
theorem r_blanks (K : St → Option St) : ∀ (f n : Nat) (t : St) (p : Nat), f < n → RT t d L T p → L ≤ p + f → ∃ t', L_X4_next_0 d K n t = K t' ∧ RT t' d L T (wh (blB T L) f p) ∧ FrN d t t' := by
  intro f
  induction f with
  | zero =>
    intro n t p hn ht hf
    obtain ⟨n, rfl⟩ : ∃ j, n = j + 1 := ⟨n - 1, by omega⟩
    obtain ⟨h1, h2, h3, h4, h5, h6⟩ := ht
    refine ⟨t, ?_, ⟨h1, h2, h3, h4, h5, h6⟩, Fr2.rf⟩
    show B_X4_next_0 _ d K t = _
    unfold B_X4_next_0
    rw [h1, h2, if_pos (nI_le (by omega) (by omega))]
  | succ f ih =>
    intro n t p hn ht hf
    obtain ⟨n, rfl⟩ : ∃ j, n = j + 1 := ⟨n - 1, by omega⟩
    have ht0 := ht
    obtain ⟨h1, h2, h3, h4, h5, h6⟩ := ht
    show ∃ t', B_X4_next_0 (L_X4_next_0 d K n) d K t = _ ∧ _
    unfold B_X4_next_0 wh
    rw [h1, h2]
    by_cases z : L ≤ p
    · rw [if_pos (nI_le z (by omega)), show blB T L p = false from decide_eq_false (fun w => by omega), if_neg Bool.false_ne_true]
      exact ⟨t, rfl, ht0, Fr2.rf⟩
    · obtain ⟨i1, i2⟩ := h5 p (by omega)
      rw [if_neg (nI_ge (by omega) (by omega)), gd_n (show p < 200 by omega) (by omega), ix_n (by omega), i2, nI_1, bn_e]
      by_cases y : T p = 32
      · rw [if_pos (by rw [y]; rfl), show blB T L p = true from decide_eq_true ⟨by omega, y⟩, if_pos rfl]
        obtain ⟨t', e', r', f'⟩ := ih n (pF t d 8 (nI (p + 1))) (p + 1) (by omega) (ht0.at (by omega)) (by omega)
        exact ⟨t', e', r', (f_N (by omega) (by omega)).t f'⟩
      · rw [if_neg (show ¬ nI (T p) = (32 : Int32) from fun w => y ((nI_eq (by omega) (by omega)).mp (show nI (T p) = nI 32 from w))), show blB T L p = false from decide_eq_false (fun w => y w.2), if_neg Bool.false_ne_true]
        exact ⟨t, rfl, ht0, Fr2.rf⟩
theorem r_letters (K : St → Option St) : ∀ (f n : Nat) (t : St) (p : Nat), f < n → RT t d L T p → L ≤ p + f → ∃ t', L_X4_next_86 d K n t = K t' ∧ RT t' d L T (wh (letB T L) f p) ∧ Fr2 (fun _ => False) (fun k j => k = d ∧ j = 8) t t' := by
  intro f
  induction f with
  | zero =>
    intro n t p hn ht hf
    obtain ⟨n, rfl⟩ : ∃ j, n = j + 1 := ⟨n - 1, by omega⟩
    refine ⟨t, ?_, ht, Fr2.rf⟩
    show B_X4_next_86 _ d K t = _
    unfold B_X4_next_86
    rw [(r_isRow ht).1, cp_s, show letB T L p = false from decide_eq_false (fun w => by omega), if_pos bf_eq]
  | succ f ih =>
    intro n t p hn ht hf
    obtain ⟨n, rfl⟩ : ∃ j, n = j + 1 := ⟨n - 1, by omega⟩
    show ∃ t', B_X4_next_86 (L_X4_next_86 d K n) d K t = _ ∧ _
    unfold B_X4_next_86 wh
    rw [(r_isRow ht).1, cp_s]
    cases y : letB T L p
    · rw [if_pos bf_eq, if_neg Bool.false_ne_true]
      exact ⟨t, rfl, ht, Fr2.rf⟩
    · have := let_P y
      rw [if_neg bt_ne, if_pos rfl, ht.2.1, nI_1, bn_e]
      obtain ⟨t', e', r', f'⟩ := ih n (pF t d 8 (nI (p + 1))) (p + 1) (by omega) (ht.at (by omega)) (by omega)
      exact ⟨t', e', r', (Fr2.pF ⟨rfl, rfl⟩).tr f'⟩
theorem r_digits {B : Nat} (K : St → Option St) : ∀ (f j n : Nat) (t : St), f < n → RT t d L T (B + j) → L ≤ B + j + f → gF t d 9 = nI B → gF t d 11 = nI (rvn T B j) → (∀ i, i < j → T (B + i) ≤ 57) → ∃ t', L_X4_next_137 d K n t = K t' ∧ RT t' d L T (wh (digB T L) f (B + j)) ∧ gF t' d 11 = nI (rvn T B (wh (digB T L) f (B + j) - B)) ∧ Fr2 (fun _ => False) (fun k j => k = d ∧ (j = 8 ∨ j = 11)) t t' := by
  intro f
  induction f with
  | zero =>
    intro j n t hn ht hf h9 h11 hd
    obtain ⟨n, rfl⟩ : ∃ j, n = j + 1 := ⟨n - 1, by omega⟩
    refine ⟨t, ?_, ht, ?_, Fr2.rf⟩
    · show B_X4_next_137 _ d K t = _
      unfold B_X4_next_137
      rw [(r_isRow ht).2, cp_s, show digB T L (B + j) = false from decide_eq_false (fun w => by omega), if_pos bf_eq]
    · show _ = nI (rvn T B (B + j - B))
      rw [show B + j - B = j by omega]; exact h11
  | succ f ih =>
    intro j n t hn ht hf h9 h11 hd
    obtain ⟨n, rfl⟩ : ∃ j, n = j + 1 := ⟨n - 1, by omega⟩
    show ∃ t', B_X4_next_137 (L_X4_next_137 d K n) d K t = _ ∧ _
    unfold B_X4_next_137 wh
    rw [(r_isRow ht).2, cp_s]
    cases y : digB T L (B + j)
    · rw [if_pos bf_eq, if_neg Bool.false_ne_true]
      exact ⟨t, rfl, ht, by rw [show B + j - B = j by omega]; exact h11, Fr2.rf⟩
    · obtain ⟨y1, y2, y3⟩ := of_decide_eq_true y
      obtain ⟨h1, h2, h3, h4, h5, h6⟩ := ht
      have ht : RT t d L T (B + j) := ⟨h1, h2, h3, h4, h5, h6⟩
      obtain ⟨i1, i2⟩ := h5 (B + j) y1
      have hr := rvn_le j hd
      have st : ∀ v : Int32, v = nI (rvn T B (j + 1)) → ∃ t', (bn (pF t d 11 v) fun s21 => bn (pF s21 d 8 ((gF s21 d 8) + (1 : Int32))) fun s22 => L_X4_next_137 d K n s22) = K t' ∧ RT t' d L T (wh (digB T L) f (B + j + 1)) ∧ gF t' d 11 = nI (rvn T B (wh (digB T L) f (B + j + 1) - B)) ∧ Fr2 (fun _ => False) (fun k j => k = d ∧ (j = 8 ∨ j = 11)) t t' := by
        intro v hv
        rw [bn_e, bn_e, gF_pF, if_neg (by omega), h2, nI_1]
        obtain ⟨t', e', r', v', f'⟩ := ih (j + 1) n (pF (pF t d 11 v) d 8 (nI (B + j + 1))) (by omega) ((ht.pF (by omega) v).at (by omega)) (by omega) (by rw [gF_pF, if_neg (by omega), gF_pF, if_neg (by omega)]; exact h9) (by rw [gF_pF, if_neg (by omega), gF_pF, if_pos ⟨rfl, rfl⟩]; exact hv) (fun i hi => by
          by_cases z : i = j
          · rw [z]; exact y3
          · exact hd i (by omega))
        exact ⟨t', e', r', v', ((Fr2.pF ⟨rfl, Or.inr rfl⟩).tr (Fr2.pF ⟨rfl, Or.inl rfl⟩)).tr f'⟩
      rw [if_neg bt_ne, if_pos rfl, bn_e, h9, h2, pk_sub (by omega), show B + j - B = j by omega]
      dsimp only
      by_cases w : j < 3
      · rw [if_neg (by rw [li_3]; exact nI_ge w (by omega)), gd_n (show B + j < 200 by omega) (by omega), ix_n (by omega), i2, h11]
        apply st
        rw [li_10, pk_mul, nI_add, li_48, pk_sub (by omega)]
        show _ = nI (if j < 3 then 10 * rvn T B j + (T (B + j) - 48) else 1000)
        rw [if_pos w]; congr 1; omega
      · rw [if_pos (by rw [li_3]; exact nI_le (by omega) (by omega))]
        apply st
        show _ = nI (if j < 3 then 10 * rvn T B j + (T (B + j) - 48) else 1000)
        rw [if_neg w]; rfl
theorem r_likeLoop {B e k : Nat} (h : RT s d L T e) (h9 : gF s d 9 = nI B) (hBe : B ≤ e) (hk : k < 16) (K : Int32 → Option Int32) : ∀ (j c n : Nat), c + j = 8 → j + 1 < n → L_X4_wordThere_30 d s (nI k) K n (1 : Int32) (nI c) = K (bI (allN (fun c => decide (wdW k c = if B + c < e then T (B + c) else 32)) j c)) := by
  obtain ⟨h1, h2, h3, h4, h5, h6⟩ := h
  intro j
  induction j with
  | zero =>
    intro c n hc hn
    obtain ⟨n, rfl⟩ : ∃ j, n = j + 1 := ⟨n - 1, by omega⟩
    show B_X4_wordThere_30 _ d s (nI k) K (1 : Int32) (nI c) = _
    unfold B_X4_wordThere_30
    rw [if_pos (by rw [li_8]; exact nI_le (by omega) (by omega))]
    rfl
  | succ j ih =>
    intro c n hc hn
    obtain ⟨n, rfl⟩ : ∃ j, n = j + 1 := ⟨n - 1, by omega⟩
    have e8 : (8 : Int32) * nI k + nI c = nI (8 * k + c) := by rw [show (8 : Int32) * nI k = nI (8 * k) from pk_mul 8 k, nI_add]
    have wb : wdW k c < 128 := by
      unfold wdW
      split
      · have := wch_let k hk c (by assumption); omega
      · omega
    have st : ∀ y, y < 256 → (if nI (wdW k c) = nI y then L_X4_wordThere_30 d s (nI k) K n (1 : Int32) (nI (c + 1)) else L_X4_wordThere_30 d s (nI k) K n (0 : Int32) (nI (c + 1))) = K (bI (if decide (wdW k c = y) = true then allN (fun c => decide (wdW k c = if B + c < e then T (B + c) else 32)) j (c + 1) else false)) := by
      intro y hy
      by_cases z : wdW k c = y
      · rw [if_pos (by rw [z]), decide_eq_true z, if_pos rfl]; exact ih (c + 1) n (by omega) (by omega)
      · rw [if_neg (fun w => z ((nI_eq (by omega) (by omega)).mp w)), decide_eq_false z, if_neg Bool.false_ne_true]
        obtain ⟨n, rfl⟩ : ∃ j, n = j + 1 := ⟨n - 1, by omega⟩
        show B_X4_wordThere_30 _ d s (nI k) K (0 : Int32) (nI (c + 1)) = _
        unfold B_X4_wordThere_30
        rw [if_pos (rfl : (0 : Int32) = 0)]
        split <;> rfl
    show B_X4_wordThere_30 (L_X4_wordThere_30 d s (nI k) K n) d s (nI k) K (1 : Int32) (nI c) = K (bI (if decide (wdW k c = if B + c < e then T (B + c) else 32) = true then allN (fun c => decide (wdW k c = if B + c < e then T (B + c) else 32)) j (c + 1) else false))
    unfold B_X4_wordThere_30
    rw [if_neg (by rw [li_8]; exact nI_ge (by omega) (by omega)), if_neg (by decide), e8, gd_n (show 8 * k + c < 128 by omega) (by omega), ix_n (by omega), h6 k hk c (by omega), bn_e, h2, h9, nI_add, nI_1]
    simp only [bn_e]
    by_cases z : B + c < e
    · obtain ⟨i1, i2⟩ := h5 (B + c) (by omega)
      rw [if_neg (nI_ge z (by omega)), gd_n (show B + c < 200 by omega) (by omega), ix_n (by omega), i2, if_pos z]
      exact st (T (B + c)) i1
    · rw [if_pos (nI_le (by omega) (by omega)), if_neg z]
      exact st 32 (by omega)
theorem r_wordThere {B : Nat} (h : RT s d L T (enL T L B)) (h9 : gF s d 9 = nI B) (hB : B ≤ L) : f_X4_wordThere d s = some (if wat T L B < 16 then nI (wat T L B) else -1) := by
  have hge : B ≤ enL T L B := enL_ge
  have h4 := h.2.2.2.1
  have hle := h.2.2.1
  have key : ∀ (j i n : Nat), i + j = 16 → j < n → (∀ x, x < i → wat T L B ≠ x) → L_X4_wordThere_2 d s n (nI i) = some (if wat T L B < 16 then nI (wat T L B) else -1) := by
    intro j
    induction j with
    | zero =>
      intro i n hi hn hx
      obtain ⟨n, rfl⟩ : ∃ j, n = j + 1 := ⟨n - 1, by omega⟩
      show B_X4_wordThere_2 _ d s (nI i) = _
      unfold B_X4_wordThere_2
      rw [if_pos (by rw [li_16]; exact nI_le (by omega) (by omega)), if_neg (fun w => hx _ (by omega) rfl)]
    | succ j ih =>
      intro i n hi hn hx
      obtain ⟨n, rfl⟩ : ∃ j, n = j + 1 := ⟨n - 1, by omega⟩
      show B_X4_wordThere_2 (L_X4_wordThere_2 d s n) d s (nI i) = _
      have e : (if (8 : Int32) < nI (enL T L B - B) then L_X4_wordThere_30 d s (nI i) (fun (e6 : Int32) => (if e6 = 0 then L_X4_wordThere_2 d s n (nI i + 1) else some (nI i))) FU (0 : Int32) (0 : Int32) else L_X4_wordThere_30 d s (nI i) (fun (e6 : Int32) => (if e6 = 0 then L_X4_wordThere_2 d s n (nI i + 1) else some (nI i))) FU (1 : Int32) (0 : Int32)) = (if bI (likeB T B (enL T L B) i) = 0 then L_X4_wordThere_2 d s n (nI i + 1) else some (nI i)) := by
        unfold likeB
        by_cases z : enL T L B - B ≤ 8
        · rw [if_neg (by rw [li_8]; exact nI_nlt z (by omega)), decide_eq_true z, Bool.true_and, li_0, r_likeLoop h h9 hge (by omega) _ 8 0 FU (by omega) (by show 9 < 1000; omega)]
        · rw [if_pos (by rw [li_8]; exact nI_lt (by omega) (by omega)), decide_eq_false z, Bool.false_and]
          show B_X4_wordThere_30 _ d s (nI i) _ (0 : Int32) (0 : Int32) = _
          unfold B_X4_wordThere_30
          rw [if_neg (by decide), if_pos rfl]
          rfl
      unfold B_X4_wordThere_2
      rw [if_neg (by rw [li_16]; exact nI_ge (by omega) (by omega)), h.2.1, h9, pk_sub hge, bn_e]
      dsimp only
      rw [e, like_is (by omega) hB, wat_is (by omega), nI_1]
      by_cases y : wat T L B = i
      · rw [decide_eq_true y, if_neg bt_ne, if_pos (by omega), y]
      · rw [decide_eq_false y, if_pos bf_eq]
        exact ih (i + 1) n (by omega) (by omega) (fun x hx' w => by
          by_cases z : x = i
          · exact y (w.trans z)
          · exact hx x (by omega) w)
  unfold f_X4_wordThere
  rw [li_0]
  exact key 16 0 FU (by omega) (by show 16 < 1000; omega) (fun x hx => by omega)
theorem r_next (h : RT s d L T p) : ∃ s', f_X4_next d s = some s' ∧ NX s' d L T (sk T L p) ∧ FrN d s s' := by
  have hL := h.2.2.2.1
  unfold f_X4_next
  obtain ⟨s1, e1, r1, f1⟩ := r_blanks (d := d) (fun (s2 : St) => bn (pF s2 d 9 (gF s2 d 8)) fun s5 => bn (pF s5 d 11 (0 : Int32)) fun s6 => (if (gF s6 d 8) = (gF s6 d 7) then bn (pF s6 d 10 (0 : Int32)) fun s30 => some s30 else cp (f_X4_isRow d (97 : Int32) (122 : Int32) s6) fun x7 => (if x7 = 0 then cp (f_X4_isRow d (48 : Int32) (57 : Int32) s6) fun x8 => (if x8 = 0 then gd (ib (gF s6 d 8) 200) (bn (fun (t10 : Int32) => bn (pF s6 d 10 t10) fun s12 => bn (pF s12 d 8 ((gF s12 d 8) + (1 : Int32))) fun s13 => some s13) fun K11 => (if (gA s6 (d + 5) (ix (gF s6 d 8))) = (59 : Int32) then K11 (3 : Int32) else K11 (4 : Int32))) else bn (pF s6 d 10 (2 : Int32)) fun s14 => L_X4_next_137 d (fun (s16 : St) => some s16) FU s14) else bn (pF s6 d 10 (1 : Int32)) fun s23 => L_X4_next_86 d (fun (s25 : St) => cp (f_X4_wordThere d s25) fun x28 => bn (pF s25 d 11 x28) fun s29 => some s29) FU s23))) L FU s p (by show L < 1000; omega) h (by omega)
  obtain ⟨B, hB⟩ : ∃ B, B = sk T L p := ⟨_, rfl⟩
  have r1' : RT s1 d L T B := by rw [hB]; exact r1
  rw [e1, ← hB, bn_e, bn_e, r1'.2.1]
  obtain ⟨s6, hs6⟩ : ∃ s6, s6 = pF (pF s1 d 9 (nI B)) d 11 0 := ⟨_, rfl⟩
  have r6 : RT s6 d L T B := by rw [hs6]; exact (r1'.pF (by omega) _).pF (by omega) _
  have f6 : FrN d s s6 := by rw [hs6]; exact (f1.t (f_N (by omega) (by omega))).t (f_N (by omega) (by omega))
  have g9 : gF s6 d 9 = nI B := by rw [hs6, gF_pF, if_neg (by omega), gF_pF, if_pos ⟨rfl, rfl⟩]
  have g11 : gF s6 d 11 = 0 := by rw [hs6, gF_pF, if_pos ⟨rfl, rfl⟩]
  rw [← hs6, r6.2.1, r6.1]
  have hBL := r6.2.2.1
  by_cases y0 : B = L
  · rw [if_pos (by rw [y0]), bn_e]
    refine ⟨_, rfl, ⟨?_, ?_, ?_, ?_⟩, f6.t (f_N (by omega) (by omega))⟩
    · unfold edN; rw [if_pos y0]
      exact (y0 ▸ r6 : RT s6 d L T L).pF (by omega) _
    · rw [gF_pF, if_neg (by omega)]; exact g9
    · rw [gF_pF, if_pos ⟨rfl, rfl⟩]; unfold tkN; rw [if_pos y0]; rfl
    · rw [gF_pF, if_neg (by omega)]; unfold vlN; rw [if_pos y0]; exact g11
  rw [if_neg (fun w => y0 ((nI_eq (by omega) (by omega)).mp w)), (r_isRow r6).1, cp_s, (r_isRow r6).2, cp_s]
  cases y1 : letB T L B
  · rw [if_pos bf_eq]
    cases y2 : digB T L B
    · obtain ⟨i1, i2⟩ := r6.2.2.2.2.1 B (by omega)
      rw [if_pos bf_eq, gd_n (show B < 200 by omega) (by omega), ix_n (by omega), i2, bn_e]
      have e8 : ∀ v, gF (pF s6 d 10 v) d 8 = nI B := fun v => by rw [gF_pF, if_neg (by omega)]; exact r6.2.1
      simp only [bn_e, e8]
      have fin : ∀ v : Nat, v = tkN T L B → NX (pF (pF s6 d 10 (nI v)) d 8 (nI B + 1)) d L T B ∧ FrN d s (pF (pF s6 d 10 (nI v)) d 8 (nI B + 1)) := by
        intro v hv
        rw [nI_1]
        refine ⟨⟨?_, ?_, ?_, ?_⟩, (f6.t (f_N (by omega) (by omega))).t (f_N (by omega) (by omega))⟩
        · unfold edN; rw [if_neg y0, y1, y2, if_neg Bool.false_ne_true, if_neg Bool.false_ne_true]
          exact (r6.pF (by omega) _).at (by omega)
        · rw [gF_pF, if_neg (by omega), gF_pF, if_neg (by omega)]; exact g9
        · rw [gF_pF, if_neg (by omega), gF_pF, if_pos ⟨rfl, rfl⟩, hv]
        · rw [gF_pF, if_neg (by omega), gF_pF, if_neg (by omega)]; unfold vlN; rw [if_neg y0, y1, y2, if_neg Bool.false_ne_true, if_neg Bool.false_ne_true]; exact g11
      by_cases y3 : T B = 59
      · have := fin 3 (by unfold tkN; rw [if_neg y0, y1, y2, if_neg Bool.false_ne_true, if_neg Bool.false_ne_true, if_pos y3])
        rw [if_pos (by rw [y3]; rfl)]
        exact ⟨_, rfl, this.1, this.2⟩
      · have := fin 4 (by unfold tkN; rw [if_neg y0, y1, y2, if_neg Bool.false_ne_true, if_neg Bool.false_ne_true, if_neg y3])
        rw [if_neg (show ¬ nI (T B) = (59 : Int32) from fun w => y3 ((nI_eq (by omega) (by omega)).mp (show nI (T B) = nI 59 from w)))]
        exact ⟨_, rfl, this.1, this.2⟩
    · rw [if_neg bt_ne, bn_e]
      have r7 : RT (pF s6 d 10 2) d L T (B + 0) := r6.pF (by omega) _
      obtain ⟨s8, e8, r8, v8, f8⟩ := r_digits (d := d) (B := B) (fun (s16 : St) => some s16) L 0 FU (pF s6 d 10 2) (by show L < 1000; omega) r7 (by omega) (by rw [gF_pF, if_neg (by omega)]; exact g9) (by rw [gF_pF, if_neg (by omega)]; exact g11) (fun i hi => by omega)
      have e0 : wh (digB T L) L (B + 0) = enD T L B := rfl
      rw [e0] at r8 v8
      refine ⟨s8, e8, ⟨?_, ?_, ?_, ?_⟩, (f6.t (f_N (by omega) (by omega))).t (f8.wk (fun k q => q) (fun k j q => ⟨q.1, by omega, by omega⟩))⟩
      · unfold edN; rw [if_neg y0, y1, y2, if_neg Bool.false_ne_true, if_pos rfl]; exact r8
      · rw [f8.1 d 9 (fun w => w) (by omega), gF_pF, if_neg (by omega)]; exact g9
      · rw [f8.1 d 10 (fun w => w) (by omega), gF_pF, if_pos ⟨rfl, rfl⟩]; unfold tkN; rw [if_neg y0, y1, y2, if_neg Bool.false_ne_true, if_pos rfl]; rfl
      · unfold vlN; rw [if_neg y0, y1, y2, if_neg Bool.false_ne_true, if_pos rfl]; exact v8
  · rw [if_neg bt_ne, bn_e]
    have r7 : RT (pF s6 d 10 1) d L T B := r6.pF (by omega) _
    obtain ⟨s8, e8, r8, f8⟩ := r_letters (d := d) (fun (s25 : St) => cp (f_X4_wordThere d s25) fun x28 => bn (pF s25 d 11 x28) fun s29 => some s29) L FU (pF s6 d 10 1) B (by show L < 1000; omega) r7 (by omega)
    have r8' : RT s8 d L T (enL T L B) := r8
    have g9' : gF s8 d 9 = nI B := by rw [f8.1 d 9 (fun w => w) (by omega), gF_pF, if_neg (by omega)]; exact g9
    rw [e8, r_wordThere r8' g9' hBL, cp_s, bn_e]
    refine ⟨_, rfl, ⟨?_, ?_, ?_, ?_⟩, ((f6.t (f_N (by omega) (by omega))).t (f8.wk (fun k q => q) (fun k j q => ⟨q.1, by omega, by omega⟩))).t (f_N (by omega) (by omega))⟩
    · unfold edN; rw [if_neg y0, y1, if_pos rfl]; exact r8'.pF (by omega) _
    · rw [gF_pF, if_neg (by omega)]; exact g9'
    · rw [gF_pF, if_neg (by omega), f8.1 d 10 (fun w => w) (by omega), gF_pF, if_pos ⟨rfl, rfl⟩]; unfold tkN; rw [if_neg y0, y1, if_pos rfl]; rfl
    · rw [gF_pF, if_pos ⟨rfl, rfl⟩]; unfold vlN; rw [if_neg y0, y1, if_pos rfl]
end READR
