/-! the class's reader -/
def flI (fl : Option Nat) : Int32 := match fl with
  | none => -1
  | some f => nI f
def TS (s : St) (b L : Nat) (T : Nat → Nat) (q : PQ) : Prop := gF s b 1 = nI L ∧ gF s b 2 = nI q.1 ∧ gF s b 3 = flI q.2 ∧ q.1 ≤ L ∧ L ≤ 200 ∧ (∀ f, q.2 = some f → f ≤ 200) ∧ ∀ i, i < L → T i < 256 ∧ gA s (b + 1) i = sbI (T i)
def FrT (b : Nat) (s t : St) : Prop := Fr2 (fun _ => False) (fun k j => k = b ∧ (j = 2 ∨ j = 3)) s t
theorem sb_32 : ∀ y, y < 256 → ((sbI y = (32 : Int32)) ↔ y = 32) := by decide +kernel
theorem sb_59 : ∀ y, y < 256 → ((sbI y = (59 : Int32)) ↔ y = 59) := by decide +kernel
theorem sb_97 : ∀ y, y < 256 → ((sbI y < (97 : Int32)) ↔ ¬ (97 ≤ y ∧ y < 128)) := by decide +kernel
theorem sb_122 : ∀ y, y < 256 → (((122 : Int32) < sbI y) ↔ (122 < y ∧ y < 128)) := by decide +kernel
theorem sb_48 : ∀ y, y < 256 → ((sbI y < (48 : Int32)) ↔ ¬ (48 ≤ y ∧ y < 128)) := by decide +kernel
theorem sb_57 : ∀ y, y < 256 → (((57 : Int32) < sbI y) ↔ (57 < y ∧ y < 128)) := by decide +kernel
theorem sb_small {y : Nat} (h : y < 128) : sbI y = nI y := if_pos h
theorem sb_eq {y w : Nat} (hy : y < 256) (hw : w < 128) : (sbI y = nI w) ↔ y = w := by
  unfold sbI
  by_cases h : y < 128
  · rw [if_pos h]; exact nI_eq (by omega) (by omega)
  · rw [if_neg h]
    constructor
    · intro e
      have := congrArg Int32.toInt e
      rw [pk_sub_toInt (by omega) (by omega), nI_toInt (by omega)] at this
      omega
    · intro e; omega
section READC
variable {s : St} {b L : Nat} {T : Nat → Nat} {q : PQ}
theorem TS.place (h : TS s b L T q) {p : Nat} (hp : p ≤ L) : TS (pF s b 2 (nI p)) b L T (p, q.2) := by
  obtain ⟨h1, h2, h3, h4, h5, h6, h7⟩ := h
  exact ⟨by rw [gF_pF, if_neg (by omega)]; exact h1, by rw [gF_pF, if_pos ⟨rfl, rfl⟩], by rw [gF_pF, if_neg (by omega)]; exact h3, hp, h5, h6, h7⟩
theorem f_place {x : Int32} : FrT b s (pF s b 2 x) := Fr2.pF ⟨rfl, Or.inl rfl⟩
theorem c_refuse (h : TS s b L T q) {x : Nat} (hx : x ≤ 200) : ∃ s', f_X2_refuse b (nI x) s = some s' ∧ TS s' b L T (q.1, rf q.2 x) ∧ FrT b s s' := by
  obtain ⟨h1, h2, h3, h4, h5, h6, h7⟩ := h
  unfold f_X2_refuse
  rw [h3]
  cases hq : q.2 with
  | none =>
    rw [show flI none = -1 from rfl, if_neg (by decide), bn_e]
    refine ⟨_, rfl, ⟨by rw [gF_pF, if_neg (by omega)]; exact h1, by rw [gF_pF, if_neg (by omega)]; exact h2, by rw [gF_pF, if_pos ⟨rfl, rfl⟩]; rfl, h4, h5, fun f hf => ?_, h7⟩, Fr2.pF ⟨rfl, Or.inr rfl⟩⟩
    have : x = f := Option.some.inj hf
    omega
  | some f =>
    have := h6 f hq
    rw [show flI (some f) = nI f from rfl, if_pos (nI_pos' (by omega))]
    exact ⟨s, rfl, ⟨h1, h2, by rw [h3, hq]; rfl, h4, h5, fun f' hf => by have : f = f' := Option.some.inj hf; omega, h7⟩, Fr2.rf⟩
theorem c_skip (h : TS s b L T q) : ∃ s', f_X2_skipBlanks b s = some s' ∧ TS s' b L T (sk T L q.1, q.2) ∧ FrT b s s' := by
  have hL := h.2.2.2.2.1
  have key : ∀ (k c n f : Nat) (t : St), c + k = 200 → k < n → TS t b L T (q.1 + c, q.2) → L ≤ q.1 + c + f → wh (blB T L) f (q.1 + c) = sk T L q.1 → ∃ t', L_X2_skipBlanks_2 b (fun s3 => some s3) n (nI c) t = some t' ∧ TS t' b L T (sk T L q.1, q.2) ∧ FrT b t t' := by
    intro k
    induction k with
    | zero =>
      intro c n f t hc hn ht hf hw
      obtain ⟨n, rfl⟩ : ∃ j, n = j + 1 := ⟨n - 1, by omega⟩
      have := ht.2.2.2.1
      dsimp only at this
      refine ⟨t, ?_, ?_, Fr2.rf⟩
      · show B_X2_skipBlanks_2 _ b _ (nI c) t = _
        unfold B_X2_skipBlanks_2
        rw [if_pos (by rw [li_200]; exact nI_le (by omega) (by omega))]
      · rw [← hw, wh_fix (show blB T L (q.1 + c) = false from decide_eq_false (fun z => by omega))]; exact ht
    | succ k ih =>
      intro c n f t hc hn ht hf hw
      obtain ⟨n, rfl⟩ : ∃ j, n = j + 1 := ⟨n - 1, by omega⟩
      obtain ⟨h1, h2, h3, h4, h5, h6, h7⟩ := ht
      dsimp only at h2 h4
      show ∃ t', B_X2_skipBlanks_2 (L_X2_skipBlanks_2 b (fun s3 => some s3) n) b (fun s3 => some s3) (nI c) t = _ ∧ _
      unfold B_X2_skipBlanks_2
      rw [if_neg (by rw [li_200]; exact nI_ge (by omega) (by omega)), h1, h2]
      by_cases z : L ≤ q.1 + c
      · rw [if_pos (nI_le z (by omega))]
        refine ⟨t, rfl, ?_, Fr2.rf⟩
        rw [← hw, wh_fix (show blB T L (q.1 + c) = false from decide_eq_false (fun z => by omega))]; exact ⟨h1, h2, h3, h4, h5, h6, h7⟩
      · obtain ⟨i1, i2⟩ := h7 (q.1 + c) (by omega)
        rw [if_neg (nI_ge (by omega) (by omega)), gd_n (show q.1 + c < 200 by omega) (by omega), ix_n (by omega), i2]
        by_cases y : T (q.1 + c) = 32
        · have hb : blB T L (q.1 + c) = true := decide_eq_true ⟨by omega, y⟩
          obtain ⟨f, rfl⟩ : ∃ j, f = j + 1 := ⟨f - 1, by omega⟩
          unfold wh at hw
          rw [hb, if_pos rfl] at hw
          rw [if_pos ((sb_32 _ i1).mpr y), bn_e, nI_1, nI_1]
          have ht' : TS t b L T (q.1 + c, q.2) := ⟨h1, h2, h3, h4, h5, h6, h7⟩
          obtain ⟨t', e', g', f'⟩ := ih (c + 1) n f (pF t b 2 (nI (q.1 + c + 1))) (by omega) (by omega) (ht'.place (by omega)) (by omega) hw
          exact ⟨t', e', g', f_place.tr f'⟩
        · rw [if_neg (fun w => y ((sb_32 _ i1).mp w))]
          refine ⟨t, rfl, ?_, Fr2.rf⟩
          rw [← hw, wh_fix (show blB T L (q.1 + c) = false from decide_eq_false (fun z => y z.2))]; exact ⟨h1, h2, h3, h4, h5, h6, h7⟩
  obtain ⟨t', e', g', f'⟩ := key 200 0 FU L s (by omega) (by show 200 < 1000; omega) h (by omega) rfl
  rw [nI_0] at e'
  exact ⟨t', e', g', f'⟩
theorem c_isLetter (h : TS s b L T q) {i : Nat} (hi : i < 2 ^ 20) : f_X2_isLetter b (nI i) s = some (bI (letB T L i)) := by
  have hL := h.2.2.2.2.1
  unfold f_X2_isLetter
  rw [h.1]
  by_cases z : L ≤ i
  · rw [if_pos (nI_le z (by omega)), show letB T L i = false from decide_eq_false (fun w => by omega)]; rfl
  · obtain ⟨i1, i2⟩ := h.2.2.2.2.2.2 i (by omega)
    rw [if_neg (nI_ge (by omega) (by omega)), gd_n (show i < 200 by omega) (by omega), gd_n (show i < 200 by omega) (by omega), ix_n (by omega), i2]
    by_cases y : 97 ≤ T i ∧ T i < 128
    · rw [if_neg (fun w => (sb_97 _ i1).mp w y)]
      by_cases y2 : 122 < T i
      · rw [if_pos ((sb_122 _ i1).mpr ⟨y2, y.2⟩), show letB T L i = false from decide_eq_false (fun w => by omega)]; rfl
      · rw [if_neg (fun w => y2 ((sb_122 _ i1).mp w).1), show letB T L i = true from decide_eq_true (by omega)]; rfl
    · rw [if_pos ((sb_97 _ i1).mpr y), show letB T L i = false from decide_eq_false (fun w => by omega)]; rfl
theorem c_isDigit (h : TS s b L T q) {i : Nat} (hi : i < 2 ^ 20) : f_X2_isDigit b (nI i) s = some (bI (digB T L i)) := by
  have hL := h.2.2.2.2.1
  unfold f_X2_isDigit
  rw [h.1]
  by_cases z : L ≤ i
  · rw [if_pos (nI_le z (by omega)), show digB T L i = false from decide_eq_false (fun w => by omega)]; rfl
  · obtain ⟨i1, i2⟩ := h.2.2.2.2.2.2 i (by omega)
    rw [if_neg (nI_ge (by omega) (by omega)), gd_n (show i < 200 by omega) (by omega), gd_n (show i < 200 by omega) (by omega), ix_n (by omega), i2]
    by_cases y : 48 ≤ T i ∧ T i < 128
    · rw [if_neg (fun w => (sb_48 _ i1).mp w y)]
      by_cases y2 : 57 < T i
      · rw [if_pos ((sb_57 _ i1).mpr ⟨y2, y.2⟩), show digB T L i = false from decide_eq_false (fun w => by omega)]; rfl
      · rw [if_neg (fun w => y2 ((sb_57 _ i1).mp w).1), show digB T L i = true from decide_eq_true (by omega)]; rfl
    · rw [if_pos ((sb_48 _ i1).mpr y), show digB T L i = false from decide_eq_false (fun w => by omega)]; rfl
theorem c_hereLoop (h : TS s b L T q) {k : Nat} (hk : k < 16) (hl : q.1 + wln k ≤ L) : ∀ (j c n : Nat), c + j = wln k → j < n → L_X2_isHere_34 b (2000 + rho k) s n (nI c) = some (bI (allN (fun c => decide (T (q.1 + c) = wch k c)) j c), s) := by
  have hL := h.2.2.2.2.1
  have w8 := wln_b k hk
  intro j
  induction j with
  | zero =>
    intro c n hc hn
    obtain ⟨n, rfl⟩ : ∃ j, n = j + 1 := ⟨n - 1, by omega⟩
    show B_X2_isHere_34 _ b (2000 + rho k) s (nI c) = _
    unfold B_X2_isHere_34
    rw [rho_l k hk, cp_s, if_pos (nI_le (by omega) (by omega))]
    rfl
  | succ j ih =>
    intro c n hc hn
    obtain ⟨n, rfl⟩ : ∃ j, n = j + 1 := ⟨n - 1, by omega⟩
    obtain ⟨i1, i2⟩ := h.2.2.2.2.2.2 (q.1 + c) (by omega)
    have wl := wch_let k hk c (by omega)
    show B_X2_isHere_34 (L_X2_isHere_34 b (2000 + rho k) s n) b (2000 + rho k) s (nI c) = some (bI (if decide (T (q.1 + c) = wch k c) = true then allN (fun c => decide (T (q.1 + c) = wch k c)) j (c + 1) else false), s)
    unfold B_X2_isHere_34
    rw [rho_l k hk, cp_s, if_neg (nI_ge (by omega) (by omega)), h.2.1, nI_add, gd_n (show q.1 + c < 200 by omega) (by omega), rho_c k hk c (by omega), cp_s, ix_n (by omega), i2, nI_1]
    by_cases y : T (q.1 + c) = wch k c
    · rw [if_pos ((sb_eq i1 (by omega)).mpr y), decide_eq_true y, if_pos rfl]; exact ih (c + 1) n (by omega) (by omega)
    · rw [if_neg (fun w => y ((sb_eq i1 (by omega)).mp w)), decide_eq_false y, if_neg Bool.false_ne_true]; rfl
theorem c_isHere (h : TS s b L T q) {k : Nat} (hk : k < 16) : ∃ s', f_X2_isHere b (2000 + rho k) s = some (bI (decide (wat T L (sk T L q.1) = k)), s') ∧ TS s' b L T (sk T L q.1, q.2) ∧ FrT b s s' := by
  have hL := h.2.2.2.2.1
  have w8 := wln_b k hk
  obtain ⟨s1, e1, t1, f1⟩ := c_skip h
  have hp := sk_le (T := T) h.2.2.2.1
  refine ⟨s1, ?_, t1, f1⟩
  unfold f_X2_isHere
  rw [e1, cw_s, rho_l k hk, cp_s, t1.2.1, nI_add, bn_e, t1.1, ← wat_is hk]
  dsimp only
  unfold isW
  by_cases y : L < sk T L q.1 + wln k
  · rw [if_pos (nI_lt y (by omega)), decide_eq_false (by omega), Bool.false_and]; rfl
  · rw [if_neg (nI_nlt (by omega) (by omega)), c_isLetter t1 (by omega), cp_s, decide_eq_true (by omega), Bool.true_and]
    cases letB T L (sk T L q.1 + wln k)
    · rw [if_pos bf_eq, li_0, c_hereLoop t1 hk (by show sk T L q.1 + wln k ≤ L; omega) (wln k) 0 FU (by omega) (by show wln k < 1000; omega)]; rfl
    · rw [if_neg bt_ne]; rfl
theorem c_readName (h : TS s b L T q) {k : Nat} (hk : k < 16) : ∃ s', f_X2_readName b (2000 + rho k) s = some s' ∧ TS s' b L T (cNm T L k q) ∧ FrT b s s' := by
  have hL := h.2.2.2.2.1
  have w8 := wln_b k hk
  obtain ⟨s1, e1, t1, f1⟩ := c_isHere h hk
  have hp := sk_le (T := T) h.2.2.2.1
  unfold f_X2_readName cNm
  rw [e1, cb_s]
  by_cases y : wat T L (sk T L q.1) = k
  · have hw : isW T L (sk T L q.1) k = true := by rw [wat_is hk]; exact decide_eq_true y
    have := (isW_iff.mp hw).1
    rw [decide_eq_true y, if_neg bt_ne, rho_l k hk, cp_s, t1.2.1, nI_add, bn_e, if_pos y]
    exact ⟨_, rfl, t1.place this, f1.tr f_place⟩
  · obtain ⟨s2, e2, t2, f2⟩ := c_refuse t1 (x := sk T L q.1) (by omega)
    rw [decide_eq_false y, if_pos bf_eq, t1.2.1, if_neg y]
    exact ⟨s2, by rw [e2, cw_s], t2, f1.tr f2⟩
theorem c_kindHere (h : TS s b L T q) : ∃ s', f_X2_kindHere b s = some ((if wat T L (sk T L q.1) < 6 then nI (wat T L (sk T L q.1)) else -1), s') ∧ TS s' b L T (sk T L q.1, q.2) ∧ FrT b s s' := by
  obtain ⟨B, hB⟩ : ∃ B, B = sk T L q.1 := ⟨_, rfl⟩
  have key : ∀ (j i n : Nat) (t : St) (p : Nat), i + j = 6 → j < n → TS t b L T (p, q.2) → sk T L p = B → (∀ x, x < i → wat T L B ≠ x) → ∃ t', L_X2_kindHere_2 b n (nI i) t = some ((if wat T L B < 6 then nI (wat T L B) else -1), t') ∧ (p = B ∨ 0 < j → TS t' b L T (B, q.2)) ∧ FrT b t t' := by
    intro j
    induction j with
    | zero =>
      intro i n t p hi hn ht hp hx
      obtain ⟨n, rfl⟩ : ∃ j, n = j + 1 := ⟨n - 1, by omega⟩
      refine ⟨t, ?_, fun w => ?_, Fr2.rf⟩
      · show B_X2_kindHere_2 _ b (nI i) t = _
        unfold B_X2_kindHere_2
        rw [if_pos (by rw [li_6]; exact nI_le (by omega) (by omega)), if_neg (fun w => hx _ (by omega) rfl)]
      · rcases w with w | w
        · rw [← w]; exact ht
        · omega
    | succ j ih =>
      intro i n t p hi hn ht hp hx
      obtain ⟨n, rfl⟩ : ∃ j, n = j + 1 := ⟨n - 1, by omega⟩
      have eN : f_X2_kindName (nI i) = some (2000 + rho i) := by
        rcases (by omega : i = 0 ∨ i = 1 ∨ i = 2 ∨ i = 3 ∨ i = 4 ∨ i = 5) with rfl | rfl | rfl | rfl | rfl | rfl <;> decide +kernel
      obtain ⟨t1, e1, g1, f1⟩ := c_isHere ht (k := i) (by omega)
      dsimp only at e1 g1
      rw [hp] at e1 g1
      show ∃ t', B_X2_kindHere_2 (L_X2_kindHere_2 b n) b (nI i) t = _ ∧ _
      unfold B_X2_kindHere_2
      rw [if_neg (by rw [li_6]; exact nI_ge (by omega) (by omega)), eN, cp_s, e1, cb_s, nI_1]
      by_cases y : wat T L B = i
      · rw [decide_eq_true y, if_neg bt_ne, if_pos (show wat T L B < 6 by omega), y]
        exact ⟨t1, rfl, fun _ => g1, f1⟩
      · rw [decide_eq_false y, if_pos bf_eq]
        obtain ⟨t', e', g', f'⟩ := ih (i + 1) n t1 B (by omega) (by omega) g1 (by rw [hB]; exact sk_sk) (fun x hx' w => by
          by_cases z : x = i
          · exact y (w.trans z)
          · exact hx x (by omega) w)
        exact ⟨t', e', fun _ => g' (Or.inl rfl), f1.tr f'⟩
  obtain ⟨t', e', g', f'⟩ := key 6 0 FU s q.1 (by omega) (by show 6 < 1000; omega) h hB.symm (fun x hx => by omega)
  rw [nI_0] at e'
  rw [← hB]
  exact ⟨t', e', g' (Or.inr (by omega)), f'⟩
theorem c_lawHere (h : TS s b L T q) : ∃ s', f_X2_lawHere b s = some ((if 12 ≤ wat T L (sk T L q.1) ∧ wat T L (sk T L q.1) < 16 then nI (wat T L (sk T L q.1) - 12) else -1), s') ∧ TS s' b L T (sk T L q.1, q.2) ∧ FrT b s s' := by
  obtain ⟨B, hB⟩ : ∃ B, B = sk T L q.1 := ⟨_, rfl⟩
  have key : ∀ (j i n : Nat) (t : St) (p : Nat), i + j = 4 → j < n → TS t b L T (p, q.2) → sk T L p = B → (∀ x, x < i → wat T L B ≠ 12 + x) → ∃ t', L_X2_lawHere_2 b n (nI i) t = some ((if 12 ≤ wat T L B ∧ wat T L B < 16 then nI (wat T L B - 12) else -1), t') ∧ (p = B ∨ 0 < j → TS t' b L T (B, q.2)) ∧ FrT b t t' := by
    intro j
    induction j with
    | zero =>
      intro i n t p hi hn ht hp hx
      obtain ⟨n, rfl⟩ : ∃ j, n = j + 1 := ⟨n - 1, by omega⟩
      refine ⟨t, ?_, fun w => ?_, Fr2.rf⟩
      · show B_X2_lawHere_2 _ b (nI i) t = _
        unfold B_X2_lawHere_2
        rw [if_pos (by rw [li_4]; exact nI_le (by omega) (by omega)), if_neg (fun w => hx (wat T L B - 12) (by omega) (by omega))]
      · rcases w with w | w
        · rw [← w]; exact ht
        · omega
    | succ j ih =>
      intro i n t p hi hn ht hp hx
      obtain ⟨n, rfl⟩ : ∃ j, n = j + 1 := ⟨n - 1, by omega⟩
      have eN : f_X2_lawName (nI i) = some (2000 + rho (12 + i)) := by
        rcases (by omega : i = 0 ∨ i = 1 ∨ i = 2 ∨ i = 3) with rfl | rfl | rfl | rfl <;> decide +kernel
      obtain ⟨t1, e1, g1, f1⟩ := c_isHere ht (k := 12 + i) (by omega)
      dsimp only at e1 g1
      rw [hp] at e1 g1
      show ∃ t', B_X2_lawHere_2 (L_X2_lawHere_2 b n) b (nI i) t = _ ∧ _
      unfold B_X2_lawHere_2
      rw [if_neg (by rw [li_4]; exact nI_ge (by omega) (by omega)), eN, cp_s, e1, cb_s, nI_1]
      by_cases y : wat T L B = 12 + i
      · rw [decide_eq_true y, if_neg bt_ne, if_pos (show 12 ≤ wat T L B ∧ wat T L B < 16 by omega), show wat T L B - 12 = i by omega]
        exact ⟨t1, rfl, fun _ => g1, f1⟩
      · rw [decide_eq_false y, if_pos bf_eq]
        obtain ⟨t', e', g', f'⟩ := ih (i + 1) n t1 B (by omega) (by omega) g1 (by rw [hB]; exact sk_sk) (fun x hx' w => by
          by_cases z : x = i
          · exact y (by rw [w, z])
          · exact hx x (by omega) w)
        exact ⟨t', e', fun _ => g' (Or.inl rfl), f1.tr f'⟩
  obtain ⟨t', e', g', f'⟩ := key 4 0 FU s q.1 (by omega) (by show 4 < 1000; omega) h hB.symm (fun x hx => by omega)
  rw [nI_0] at e'
  rw [← hB]
  exact ⟨t', e', g' (Or.inr (by omega)), f'⟩
/-- the capped value of the first j digits -/
def cvn (T : Nat → Nat) (b : Nat) : Nat → Nat
  | 0 => 0
  | j + 1 => min 1000 (10 * cvn T b j + (T (b + j) - 48))
theorem cvn_le (T : Nat → Nat) (b : Nat) : ∀ j, cvn T b j ≤ 1000
  | 0 => by show 0 ≤ 1000; omega
  | j + 1 => Nat.min_le_left _ _
theorem dv_lt {T : Nat → Nat} {b : Nat} : ∀ j, (∀ i, i < j → T (b + i) ≤ 57) → dv T b j < 10 ^ j
  | 0, _ => by show 0 < 1; omega
  | j + 1, h => by
    have h1 := dv_lt j (fun i hi => h i (by omega))
    have h2 := h j (by omega)
    show 10 * dv T b j + (T (b + j) - 48) < 10 ^ (j + 1)
    rw [Nat.pow_succ]; omega
theorem cvn_dv {T : Nat → Nat} {b : Nat} : ∀ j, j ≤ 3 → (∀ i, i < j → T (b + i) ≤ 57) → cvn T b j = dv T b j
  | 0, _, _ => rfl
  | j + 1, hj, h => by
    have h1 := cvn_dv j (by omega) (fun i hi => h i (by omega))
    have h2 := dv_lt (j + 1) h
    have h3 : (10 : Nat) ^ (j + 1) ≤ 10 ^ 3 := Nat.pow_le_pow_right (by decide) hj
    show min 1000 (10 * cvn T b j + (T (b + j) - 48)) = dv T b (j + 1)
    rw [h1]
    show min 1000 (dv T b (j + 1)) = dv T b (j + 1)
    omega
theorem c_numLoop {b0 : Nat} (h : TS s b L T (b0, q.2)) (a1 x2 : Int32) (K : Int32 → St → Option (Int32 × St)) : ∃ s', L_X2_readNumber_14 b a1 x2 K FU (0 : Int32) (0 : Int32) s = K (nI (cvn T b0 (enD T L b0 - b0))) s' ∧ TS s' b L T (enD T L b0, q.2) ∧ FrT b s s' := by
  have hL := h.2.2.2.2.1
  have key : ∀ (k c n f : Nat) (t : St), c + k = 200 → k < n → TS t b L T (b0 + c, q.2) → L ≤ b0 + c + f → wh (digB T L) f (b0 + c) = enD T L b0 → ∃ t', L_X2_readNumber_14 b a1 x2 K n (nI (cvn T b0 c)) (nI c) t = K (nI (cvn T b0 (enD T L b0 - b0))) t' ∧ TS t' b L T (enD T L b0, q.2) ∧ FrT b t t' := by
    intro k
    induction k with
    | zero =>
      intro c n f t hc hn ht hf hw
      obtain ⟨n, rfl⟩ : ∃ j, n = j + 1 := ⟨n - 1, by omega⟩
      have := ht.2.2.2.1
      dsimp only at this
      have e0 : enD T L b0 = b0 + c := by rw [← hw, wh_fix (show digB T L (b0 + c) = false from decide_eq_false (fun z => by omega))]
      refine ⟨t, ?_, by rw [e0]; exact ht, Fr2.rf⟩
      show B_X2_readNumber_14 _ b a1 x2 K _ (nI c) t = _
      unfold B_X2_readNumber_14
      rw [if_pos (by rw [li_200]; exact nI_le (by omega) (by omega)), e0, show b0 + c - b0 = c by omega]
    | succ k ih =>
      intro c n f t hc hn ht hf hw
      obtain ⟨n, rfl⟩ : ∃ j, n = j + 1 := ⟨n - 1, by omega⟩
      obtain ⟨h1, h2, h3, h4, h5, h6, h7⟩ := ht
      have ht : TS t b L T (b0 + c, q.2) := ⟨h1, h2, h3, h4, h5, h6, h7⟩
      dsimp only at h2 h4
      show ∃ t', B_X2_readNumber_14 (L_X2_readNumber_14 b a1 x2 K n) b a1 x2 K (nI (cvn T b0 c)) (nI c) t = _ ∧ _
      unfold B_X2_readNumber_14
      rw [if_neg (by rw [li_200]; exact nI_ge (by omega) (by omega)), h2, c_isDigit ht (by omega), cp_s]
      cases y : digB T L (b0 + c)
      · have e0 : enD T L b0 = b0 + c := by rw [← hw, wh_fix y]
        rw [if_pos bf_eq, e0, show b0 + c - b0 = c by omega]
        exact ⟨t, rfl, ht, Fr2.rf⟩
      · obtain ⟨y1, y2, y3⟩ := of_decide_eq_true y
        obtain ⟨i1, i2⟩ := h7 (b0 + c) (by omega)
        obtain ⟨f, rfl⟩ : ∃ j, f = j + 1 := ⟨f - 1, by omega⟩
        unfold wh at hw
        rw [y, if_pos rfl] at hw
        have hcv := cvn_le T b0 c
        have ev : mmin (1000 : Int32) ((nI (cvn T b0 c) * (10 : Int32) + nI (T (b0 + c))) - (48 : Int32)) = nI (cvn T b0 (c + 1)) := by
          rw [li_10, pk_mul, nI_add, li_48, pk_sub (by omega)]
          show _ = nI (min 1000 (10 * cvn T b0 c + (T (b0 + c) - 48)))
          unfold mmin
          rw [li_1000]
          by_cases w : cvn T b0 c * 10 + T (b0 + c) - 48 < 1000
          · rw [if_pos (nI_lt w (by omega))]; congr 1; omega
          · rw [if_neg (nI_nlt (by omega) (by omega))]; congr 1; omega
        rw [if_neg bt_ne, gd_n (show b0 + c < 200 by omega) (by omega), ix_n (by omega), i2, sb_small (by omega), bn_e, bn_e, nI_1, nI_1, ev]
        obtain ⟨t', e', g', f'⟩ := ih (c + 1) n f (pF t b 2 (nI (b0 + c + 1))) (by omega) (by omega) (ht.place (by omega)) (by omega) hw
        exact ⟨t', e', g', f_place.tr f'⟩
  obtain ⟨t', e', g', f'⟩ := key 200 0 FU L s (by omega) (by show 200 < 1000; omega) h (by omega) rfl
  rw [nI_0] at e'
  exact ⟨t', e', g', f'⟩
theorem c_readNumber (h : TS s b L T q) {most : Nat} (hm : most ≤ 99) : ∃ s', f_X2_readNumber b (nI most) s = some (nI (cNv T L most q), s') ∧ TS s' b L T (cNu T L most q) ∧ FrT b s s' := by
  have hL := h.2.2.2.2.1
  obtain ⟨s1, e1, t1, f1⟩ := c_skip h
  have hp := sk_le (T := T) h.2.2.2.1
  obtain ⟨B, hB⟩ : ∃ B, B = sk T L q.1 := ⟨_, rfl⟩
  rw [← hB] at t1 hp
  have he := enD_le (T := T) hp
  have hge : B ≤ enD T L B := enD_ge
  have hd : ∀ i, i < enD T L B - B → T (B + i) ≤ 57 := fun i hi => (of_decide_eq_true (wh_in (P := digB T L) L B (B + i) (by omega) (by show B + i < enD T L B; omega))).2.2
  have fin : ∀ (t : St) (v : Nat), TS t b L T (enD T L B, q.2) → okNum T L B most = true → v = dv T B (enD T L B - B) → ((if 0 ≤ (gF t b 3) then some ((0 : Int32), t) else some (nI v, t)) = some (nI (cNv T L most q), t)) ∧ TS t b L T (cNu T L most q) := by
    intro t v ht ho hv
    have e : cNu T L most q = (enD T L B, q.2) := by unfold cNu; rw [← hB, if_pos ho]
    have ev : cNv T L most q = if q.2 = none then v else 0 := by unfold cNv; rw [e, ← hB, hv]
    rw [e, ev, ht.2.2.1]
    refine ⟨?_, ht⟩
    cases hq : q.2 with
    | none => rw [hq] at *; rw [show flI none = -1 from rfl, if_neg (by decide), if_pos rfl]
    | some f =>
      have := h.2.2.2.2.2.1 f hq
      rw [show flI (some f) = nI f from rfl, if_pos (nI_pos' (by omega)), if_neg (fun w => by cases w)]; rfl
  have fail : ∀ (t : St) (e6 : Int32), TS t b L T (enD T L B, q.2) → okNum T L B most = false → ∃ t', (cw (f_X2_refuse b (nI B) t) fun s14 => (if 0 ≤ (gF s14 b 3) then some ((0 : Int32), s14) else some (e6, s14))) = some (nI (cNv T L most q), t') ∧ TS t' b L T (cNu T L most q) ∧ FrT b t t' := by
    intro t e6 ht ho
    obtain ⟨t2, k2, g2, f2⟩ := c_refuse ht (x := B) (by omega)
    have e : cNu T L most q = (enD T L B, rf q.2 B) := by unfold cNu; rw [← hB, ho, if_neg Bool.false_ne_true]
    have ne : (rf q.2 B) ≠ none := by unfold rf; split <;> exact fun w => by cases w
    have ev : cNv T L most q = 0 := by unfold cNv; rw [e, if_neg ne]
    obtain ⟨f, hf⟩ : ∃ f, rf q.2 B = some f := by
      cases hz : rf q.2 B with
      | none => exact absurd hz ne
      | some f => exact ⟨f, rfl⟩
    have hfl := g2.2.2.2.2.2.1 f hf
    have g3 := g2.2.2.1
    dsimp only at g3
    rw [hf] at g3
    refine ⟨t2, ?_, by rw [e]; exact g2, f2⟩
    rw [k2, cw_s, g3, show flI (some f) = nI f from rfl, if_pos (nI_pos' (by omega)), ev]; rfl
  unfold f_X2_readNumber
  rw [e1, cw_s, t1.2.1, bn_e]
  dsimp only
  obtain ⟨s2, e2, t2, f2⟩ := c_numLoop t1 (nI most) (nI B) (fun (e6 : Int32) (s7 : St) => bn (fun (s12 : St) => (if 0 ≤ (gF s12 b 3) then some ((0 : Int32), s12) else some (e6, s12))) fun K13 => (if (gF s7 b 2) = nI B then cw (f_X2_refuse b (nI B) s7) fun s14 => K13 s14 else (if (3 : Int32) < ((gF s7 b 2) - nI B) then cw (f_X2_refuse b (nI B) s7) fun s15 => K13 s15 else (if e6 ≤ nI most then K13 s7 else cw (f_X2_refuse b (nI B) s7) fun s16 => K13 s16))))
  rw [e2, bn_e, t2.2.1, pk_sub hge]
  dsimp only
  by_cases y1 : enD T L B = B
  · obtain ⟨t3, k3, g3, f3⟩ := fail s2 (nI (cvn T B (enD T L B - B))) t2 (decide_eq_false (fun w => by omega))
    rw [if_pos (by rw [y1]), k3]
    exact ⟨t3, rfl, g3, (f1.tr f2).tr f3⟩
  · rw [if_neg (fun w => y1 ((nI_eq (by omega) (by omega)).mp w))]
    by_cases y2 : 3 < enD T L B - B
    · obtain ⟨t3, k3, g3, f3⟩ := fail s2 (nI (cvn T B (enD T L B - B))) t2 (decide_eq_false (fun w => by omega))
      rw [if_pos (by rw [li_3]; exact nI_lt y2 (by omega)), k3]
      exact ⟨t3, rfl, g3, (f1.tr f2).tr f3⟩
    · have ec := cvn_dv (T := T) (b := B) (enD T L B - B) (by omega) hd
      have hcv := cvn_le T B (enD T L B - B)
      rw [if_neg (by rw [li_3]; exact nI_nlt (by omega) (by omega))]
      by_cases y3 : cvn T B (enD T L B - B) ≤ most
      · obtain ⟨k3, g3⟩ := fin s2 (cvn T B (enD T L B - B)) t2 (decide_eq_true ⟨by omega, by omega, by omega⟩) ec
        rw [if_pos (nI_le y3 (by omega)), k3]
        exact ⟨s2, rfl, g3, f1.tr f2⟩
      · obtain ⟨t3, k3, g3, f3⟩ := fail s2 (nI (cvn T B (enD T L B - B))) t2 (decide_eq_false (fun w => by omega))
        rw [if_neg (nI_ge (by omega) (by omega)), k3]
        exact ⟨t3, rfl, g3, (f1.tr f2).tr f3⟩
theorem c_readSign (h : TS s b L T q) : ∃ s', f_X2_readSign b (59 : Int32) s = some s' ∧ TS s' b L T (cSg T L q) ∧ FrT b s s' := by
  have hL := h.2.2.2.2.1
  obtain ⟨s1, e1, t1, f1⟩ := c_skip h
  have hp := sk_le (T := T) h.2.2.2.1
  obtain ⟨s2, e2, t2, f2⟩ := c_refuse t1 (x := sk T L q.1) (by omega)
  unfold f_X2_readSign cSg
  rw [e1, cw_s, t1.1, t1.2.1]
  by_cases y : L ≤ sk T L q.1
  · rw [if_pos (nI_le y (by omega)), if_neg (fun w => by omega), e2, cw_s]
    exact ⟨s2, rfl, t2, f1.tr f2⟩
  · obtain ⟨i1, i2⟩ := t1.2.2.2.2.2.2 (sk T L q.1) (by omega)
    rw [if_neg (nI_ge (by omega) (by omega)), gd_n (show sk T L q.1 < 200 by omega) (by omega), ix_n (by omega), i2]
    by_cases z : T (sk T L q.1) = 59
    · rw [if_pos ((sb_59 _ i1).mpr z), if_pos ⟨by omega, z⟩, nI_1, bn_e]
      exact ⟨_, rfl, t1.place (by omega), f1.tr f_place⟩
    · rw [if_neg (fun w => z ((sb_59 _ i1).mp w)), if_neg (fun w => z w.2), e2, cw_s]
      exact ⟨s2, rfl, t2, f1.tr f2⟩
end READC
