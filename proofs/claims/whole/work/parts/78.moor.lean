/-! all sentences in the reference; moor -/
theorem cNm_g {T : Nat → Nat} {L k : Nat} {q : PQ} : q.1 ≤ (cNm T L k q).1 := by
  have h : q.1 ≤ sk T L q.1 := sk_ge
  unfold cNm; split
  · show q.1 ≤ sk T L q.1 + wln k; omega
  · exact h
theorem cNu_g {T : Nat → Nat} {L k : Nat} {q : PQ} : q.1 ≤ (cNu T L k q).1 := by
  have h : q.1 ≤ sk T L q.1 := sk_ge
  have h2 : sk T L q.1 ≤ enD T L (sk T L q.1) := enD_ge
  show q.1 ≤ enD T L (sk T L q.1)
  omega
theorem cOp_g {T : Nat → Nat} {L k most z : Nat} {q : PQ} : q.1 ≤ (cOp T L k most z q).2.1 := by
  have h : q.1 ≤ sk T L q.1 := sk_ge
  unfold cOp; split
  · exact Nat.le_trans h (Nat.le_trans (cNm_g (q := (sk T L q.1, q.2))) cNu_g)
  · exact h
theorem cSg_g {T : Nat → Nat} {L : Nat} {q : PQ} (h : (cSg T L q).2 = none) : q.1 + 1 ≤ (cSg T L q).1 := by
  have h1 := cSg_n h
  have h2 : q.1 ≤ sk T L q.1 := sk_ge
  unfold cSg
  rw [if_pos h1.2]
  show q.1 + 1 ≤ sk T L q.1 + 1
  omega
theorem cSe_g {T : Nat → Nat} {L : Nat} {q : PQ} {g : MS} : q.1 ≤ (cSe T L q g).1.1 := by
  have h : q.1 ≤ sk T L q.1 := sk_ge
  unfold cSe
  dsimp only
  split
  · unfold cPer
    dsimp only
    split
    · exact Nat.le_trans h (Nat.le_trans (cNm_g (q := (sk T L q.1, q.2))) (Nat.le_trans cNm_g (Nat.le_trans cNu_g (Nat.le_trans cOp_g cOp_g))))
    · exact Nat.le_trans h (Nat.le_trans (cNm_g (q := (sk T L q.1, rf q.2 (sk T L q.1)))) (Nat.le_trans cNm_g (Nat.le_trans cNu_g (Nat.le_trans cOp_g cOp_g))))
  · split
    · exact Nat.le_trans h (Nat.le_trans (cNm_g (q := (sk T L q.1, q.2))) (Nat.le_trans cNu_g (Nat.le_trans cNm_g cNu_g)))
    · split
      · exact Nat.le_trans h (Nat.le_trans (cNm_g (q := (sk T L q.1, q.2))) (Nat.le_trans cNu_g (Nat.le_trans cNm_g cNu_g)))
      · split
        · exact Nat.le_trans h (Nat.le_trans (cNm_g (q := (sk T L q.1, q.2))) cNu_g)
        · exact h
theorem cPer_c {T : Nat → Nat} {L w : Nat} {q : PQ} {g : MS} (h : (cPer T L w q g).1.2 = none) : g.1 0 0 < 8 := by
  unfold cPer at h
  dsimp only at h
  have n1 := (cNm_n (cNm_n (cNu_n (cOp_n (cOp_n h))).1).1).1
  by_cases z : g.1 0 0 < 8
  · exact z
  · rw [if_neg z] at n1; exact absurd n1 (rf_ne _ _)
theorem cPer_B {T : Nat → Nat} {L w : Nat} {q : PQ} {g : MS} (hw : w < 6) (hB : BM g) : BM (cPer T L w q g).2 := by
  have hc := cPer_c (T := T) (L := L) (w := w) (q := q) (g := g)
  unfold cPer at hc ⊢
  dsimp only at hc ⊢
  by_cases z : (cOp T L 8 9 0 (cOp T L 7 99 50 (cNu T L 31 (cNm T L 6 (cNm T L w (if g.1 0 0 < 8 then q else (q.1, rf q.2 q.1)))))).2).2.2 = none
  · rw [if_pos z]
    exact hB.come (hc z) (by omega) (cOp_le (by omega)) (cOp_le (by omega)) cNv_le
  · rw [if_neg z]; exact hB
theorem cSe_B {T : Nat → Nat} {L : Nat} {q : PQ} {g : MS} (hB : BM g) : BM (cSe T L q g).2 := by
  unfold cSe
  dsimp only
  split
  · rename_i h; exact cPer_B h hB
  · split
    · exact hB.setH cNv_le
    · split
      · refine hB.setW (fun c hc => ?_)
        show (if c = _ then _ else g.1 3 c) ≤ 99
        split
        · exact cNv_le
        · exact (hB.2.2.2.2.1 c hc).2
      · split
        · rename_i h
          unfold cLaw
          dsimp only
          have l1 := cNv_le (T := T) (L := L) (most := lawMax (wat T L (sk T L q.1) - 12)) (q := cNm T L (12 + (wat T L (sk T L q.1) - 12)) (sk T L q.1, q.2))
          refine hB.setL (fun z => ?_) (fun z => ?_) (fun z => ?_)
          · have e : lawMax (wat T L (sk T L q.1) - 12) = 9 := if_pos z
            omega
          · have e : lawMax (wat T L (sk T L q.1) - 12) = 50 := (if_neg (by omega)).trans (if_pos z)
            omega
          · have e : lawMax (wat T L (sk T L q.1) - 12) = 99 := (if_neg (by omega)).trans (if_neg (by omega))
            omega
        · exact hB
theorem cAll_B {T : Nat → Nat} {L : Nat} : ∀ (n : Nat) (q : PQ) (g : MS), BM g → BM (cAll T L n q g).2
  | 0, _, _, h => h
  | n + 1, q, g, h => by
    unfold cAll
    split
    · exact h
    · split
      · exact cAll_B n _ _ (cSe_B h)
      · exact h
theorem cAll_f {T : Nat → Nat} {L f : Nat} : ∀ (n : Nat) (q : PQ) (g : MS), q.2 = some f → (cAll T L n q g).1.2 = some f
  | 0, _, _, h => h
  | n + 1, q, g, h => by
    unfold cAll
    split
    · exact h
    · rw [if_neg (by rw [h]; exact fun w => by cases w)]; exact h
/-- z plays no part -/
def wz (z : Int32) (m : MS) : MS := (m.1, m.2.1, z)
theorem cSe_z {T : Nat → Nat} {L : Nat} {q : PQ} (z : Int32) (g : MS) : cSe T L q (wz z g) = ((cSe T L q g).1, wz z (cSe T L q g).2) := by
  unfold cSe
  dsimp only
  split
  · unfold cPer
    dsimp only
    rw [show (wz z g).1 = g.1 from rfl]
    split <;> split <;> rfl
  · split
    · rfl
    · split
      · rfl
      · split <;> rfl
theorem cAll_z {T : Nat → Nat} {L : Nat} (z : Int32) : ∀ (n : Nat) (q : PQ) (g : MS), cAll T L n q (wz z g) = ((cAll T L n q g).1, wz z (cAll T L n q g).2)
  | 0, _, _ => rfl
  | n + 1, q, g => by
    unfold cAll
    rw [cSe_z]
    dsimp only
    split
    · rfl
    · split
      · exact cAll_z z n _ _
      · rfl
/-- the moor at first -/
def gI (j i : Nat) : Nat := if j = 1 then (if i = 0 then 2 else if i = 1 then 3 else 20) else if j = 2 then 5 else 0
theorem BM.I (z : Int32) : BM (gI, 0, z) := by
  refine ⟨by show 0 ≤ 8; omega, fun i hi => ?_, by show 20 ≤ 50; omega, by show 20 ≤ 99; omega, fun c _ => ⟨by show 5 ≤ 9; omega, by show 0 ≤ 99; omega⟩, fun p hp => ?_⟩
  · rcases (by omega : i = 0 ∨ i = 1) with rfl | rfl
    · show 2 ≤ 9; omega
    · show 3 ≤ 9; omega
  · have : p < 0 := hp
    omega
section MOOR
variable {s : St} {b d L : Nat} {T : Nat → Nat} {p : Nat} {g0 g m : MS} {ap : Bool}
theorem r_allLoop : ∀ (n f B : Nat) (p : Nat) (g : MS) (s : St), L ≤ B + n → n + 1 < f → BM g → sk T L p = B → RT s d L T p → MM s d 0 (if ap = true then g else g0) → ∃ x s', L_X4_readsAll_9 d (bI ap) f (nI (g.1 0 0)) (1 : Int32) s = some (x, s') ∧ (((cAll T L n (B, none) g).1.2 = none ∧ x = 1 ∧ MM s' d 0 (if ap = true then (cAll T L n (B, none) g).2 else g0)) ∨ (∃ f, (cAll T L n (B, none) g).1.2 = some f ∧ x = 0 ∧ gF s' d 9 = nI f ∧ (ap = false → MM s' d 0 g0))) ∧ FrQ d s s' := by
  intro n
  induction n with
  | zero =>
    intro f B p g s hn hf hB hp hR hM
    obtain ⟨f, rfl⟩ : ∃ j, f = j + 1 := ⟨f - 1, by omega⟩
    obtain ⟨s1, e1, n1, f1⟩ := r_next hR
    have hBL := sk_le (T := T) hR.2.2.1
    have e0 : tkN T L B = 0 := if_pos (by omega)
    refine ⟨1, s1, ?_, Or.inl ⟨rfl, rfl, hM.n f1⟩, f1.q⟩
    show B_X4_readsAll_9 _ d (bI ap) (nI (g.1 0 0)) (1 : Int32) s = _
    unfold B_X4_readsAll_9
    rw [hp] at n1
    rw [if_neg (by decide), e1, cw_s, n1.2.2.1, e0, if_pos (by decide)]
  | succ n ih =>
    intro f B p g s hn hf hB hp hR hM
    obtain ⟨f, rfl⟩ : ∃ j, f = j + 1 := ⟨f - 1, by omega⟩
    obtain ⟨s1, e1, n1, f1⟩ := r_next hR
    have hBL := sk_le (T := T) hR.2.2.1
    rw [hp] at n1 hBL
    have hM1 := hM.n f1
    have tl := tk_lt T L B
    have wl := wat_le T L B
    have h8 := hB.1
    show ∃ x s', B_X4_readsAll_9 (L_X4_readsAll_9 d (bI ap) f) d (bI ap) (nI (g.1 0 0)) (1 : Int32) s = some (x, s') ∧ _
    by_cases y0 : L ≤ B
    · have e0 : tkN T L B = 0 := if_pos (by omega)
      have eA : cAll T L (n + 1) (B, none) g = ((B, none), g) := by unfold cAll; rw [if_pos y0]
      rw [eA]
      refine ⟨1, s1, ?_, Or.inl ⟨rfl, rfl, hM1⟩, f1.q⟩
      unfold B_X4_readsAll_9
      rw [if_neg (by decide), e1, cw_s, n1.2.2.1, e0, if_pos (by decide)]
    have hsk : sk T L B = B := by rw [← hp]; exact sk_sk
    have eA : cAll T L (n + 1) (B, none) g = cAll T L n (sk T L (cSg T L (cSe T L (B, none) g).1).1, (cSg T L (cSe T L (B, none) g).1).2) (cSe T L (B, none) g).2 := by
      show (if L ≤ B then _ else if (none : Option Nat) = none then _ else _) = _
      rw [if_neg y0, if_pos rfl]
    rw [eA]
    have t0 : ¬ tkN T L B = 0 := by
      unfold tkN
      rw [if_neg (by omega)]
      repeat' split
      all_goals omega
    have et : (if nI (tkN T L B) = (1 : Int32) then vlN T L B else (-1 : Int32)) = if wat T L B < 16 then nI (wat T L B) else -1 := by
      by_cases z : tkN T L B = 1
      · have hl : letB T L B = true := by
          unfold tkN at z
          rw [if_neg (by omega)] at z
          cases q : letB T L B
          · rw [q, if_neg Bool.false_ne_true] at z
            split at z
            · omega
            · split at z <;> omega
          · rfl
        rw [z, if_pos (by decide)]
        unfold vlN
        rw [if_neg (by omega), if_pos hl]
      · rw [if_neg (show ¬ nI (tkN T L B) = (1 : Int32) from fun w => z ((nI_eq (by omega) (by omega)).mp (show nI (tkN T L B) = nI 1 from w)))]
        rw [if_neg (fun w => z (w_tok w rfl).2.2.1)]
    -- behind a sentence
    have after : ∀ (s2 : St) (x : Int32) (c2 : Int32), SR s2 d L T ap g0 g (cSg T L (cSe T L (B, none) g).1, (cSe T L (B, none) g).2) x → FrQ d s1 s2 → ((cSg T L (cSe T L (B, none) g).1).2 = none → c2 = nI ((cSe T L (B, none) g).2.1 0 0)) → ∃ x' s', L_X4_readsAll_9 d (bI ap) f c2 x s2 = some (x', s') ∧ (((cAll T L n (sk T L (cSg T L (cSe T L (B, none) g).1).1, (cSg T L (cSe T L (B, none) g).1).2) (cSe T L (B, none) g).2).1.2 = none ∧ x' = 1 ∧ MM s' d 0 (if ap = true then (cAll T L n (sk T L (cSg T L (cSe T L (B, none) g).1).1, (cSg T L (cSe T L (B, none) g).1).2) (cSe T L (B, none) g).2).2 else g0)) ∨ (∃ f, (cAll T L n (sk T L (cSg T L (cSe T L (B, none) g).1).1, (cSg T L (cSe T L (B, none) g).1).2) (cSe T L (B, none) g).2).1.2 = some f ∧ x' = 0 ∧ gF s' d 9 = nI f ∧ (ap = false → MM s' d 0 g0))) ∧ FrQ d s s' := by
      intro s2 x c2 hS f2 hc2
      have F2 := f1.q.t f2
      rcases hS with ⟨h1, rfl, h3, h4⟩ | ⟨fl, h1, rfl, h3, h4⟩
      · dsimp only at h1 h3 h4
        have hg1 := cSe_g (T := T) (L := L) (q := (B, none)) (g := g)
        have hg2 := cSg_g h1
        have hg3 : (cSg T L (cSe T L (B, none) g).1).1 ≤ sk T L (cSg T L (cSe T L (B, none) g).1).1 := sk_ge
        dsimp only at hg1
        obtain ⟨x', s', e', r', f'⟩ := ih f (sk T L (cSg T L (cSe T L (B, none) g).1).1) (cSg T L (cSe T L (B, none) g).1).1 (cSe T L (B, none) g).2 s2 (by omega) (by omega) (cSe_B hB) rfl h3 h4
        rw [hc2 h1, h1]
        exact ⟨x', s', e', r', F2.t f'⟩
      · obtain ⟨f, rfl⟩ : ∃ j, f = j + 1 := ⟨f - 1, by omega⟩
        refine ⟨0, s2, ?_, Or.inr ⟨fl, cAll_f n _ _ h1, rfl, h3, fun ha => ?_⟩, F2⟩
        · show B_X4_readsAll_9 _ d (bI ap) c2 (0 : Int32) s2 = _
          unfold B_X4_readsAll_9
          rw [if_pos rfl]
        · rw [ha, if_neg Bool.false_ne_true] at h4; exact h4
    unfold B_X4_readsAll_9
    rw [if_neg (by decide), e1, cw_s, n1.2.2.1, if_neg (show ¬ nI (tkN T L B) = (0 : Int32) from fun w => t0 ((nI_eq (by omega) (by omega)).mp (show nI (tkN T L B) = nI 0 from w))), bn_if2, n1.2.2.2, et]
    by_cases y1 : wat T L B < 6
    · have eC : cSe T L (B, none) g = cPer T L (wat T L B) (B, none) g := by
        unfold cSe
        dsimp only
        rw [hsk, if_pos y1]
      have r1 : RT s1 d L T (B + wln (wat T L B)) := by rw [← (w_tok (by omega) rfl).2.2.2.1]; exact n1.1
      obtain ⟨x, s2, e2, S2, f2⟩ := r_person r1 n1.2.1 hM1 hB y1 rfl hsk
      rw [if_pos (show wat T L B < 16 by omega), r_inN _ 5 (n := 5) (by decide), cp_s, wp_n (show wat T L B < 5 + 1 by omega) (by omega), bn_e, if_neg bt_ne, e2, cb_s, nI_1]
      rw [← eC] at S2
      refine after s2 x _ S2 f2 (fun hz => ?_)
      have hz2 := (cSg_n hz).1
      rw [eC] at hz2 ⊢
      have hc := cPer_c hz2
      unfold cPer at hz2 ⊢
      dsimp only at hz2 ⊢
      rw [if_pos hz2, comeS_0]
    by_cases y2 : wat T L B = 10 ∨ wat T L B = 11
    · obtain ⟨most, fd, hwc⟩ : ∃ most fd, (wat T L B = 10 ∧ most = 9 ∧ fd = 2) ∨ (wat T L B = 11 ∧ most = 99 ∧ fd = 3) := by
        rcases y2 with y | y
        · exact ⟨9, 2, Or.inl ⟨y, rfl, rfl⟩⟩
        · exact ⟨99, 3, Or.inr ⟨y, rfl, rfl⟩⟩
      have eC : cSe T L (B, none) g = cCell T L (wat T L B) most fd (B, none) g := by
        unfold cSe
        dsimp only
        rw [hsk, if_neg y1]
        rcases hwc with ⟨y, rfl, rfl⟩ | ⟨y, rfl, rfl⟩
        · rw [if_pos y, y]
        · rw [if_neg (by omega), if_pos y, y]
      have r1 : RT s1 d L T (B + wln (wat T L B)) := by rw [← (w_tok (by omega) rfl).2.2.2.1]; exact n1.1
      obtain ⟨x, s2, e2, S2, f2⟩ := r_cell hwc r1 hM1 hB rfl hsk
      rw [if_pos (show wat T L B < 16 by omega), r_inN _ 5 (n := 5) (by decide), cp_s, show wp (nI (wat T L B)) (5 + 1) = false from decide_eq_false (fun w => by rw [nI_toInt (by omega)] at w; omega), bn_e, if_pos bf_eq, r_inLo, cp_s, nI_toInt (by omega), decide_eq_true (show ((10 : Int64).toInt ≤ ((wat T L B : Nat) : Int) ∧ ((wat T L B : Nat) : Int) ≤ (11 : Int64).toInt) from ⟨by show (10 : Int) ≤ _; omega, by show _ ≤ (11 : Int); omega⟩), if_neg bt_ne, e2, cb_s]
      rw [← eC] at S2
      refine after s2 x _ S2 f2 (fun hz => ?_)
      rw [eC]
      rcases hwc with ⟨_, rfl, rfl⟩ | ⟨_, rfl, rfl⟩ <;> rfl
    by_cases y3 : 12 ≤ wat T L B ∧ wat T L B < 16
    · obtain ⟨i, hi⟩ : ∃ i, wat T L B = 12 + i := ⟨wat T L B - 12, by omega⟩
      have eC : cSe T L (B, none) g = cLaw T L i (B, none) g := by
        unfold cSe
        dsimp only
        rw [hsk, if_neg y1, if_neg (by omega), if_neg (by omega), if_pos y3, hi, show 12 + i - 12 = i by omega]
      have r1 : RT s1 d L T (B + wln (12 + i)) := by rw [← hi, ← (w_tok (by omega) rfl).2.2.2.1]; exact n1.1
      obtain ⟨x, s2, e2, S2, f2⟩ := r_law (i := i) (by omega) r1 hM1 hi hsk
      rw [if_pos y3.2, r_inN _ 5 (n := 5) (by decide), cp_s, show wp (nI (wat T L B)) (5 + 1) = false from decide_eq_false (fun w => by rw [nI_toInt (by omega)] at w; omega), bn_e, if_pos bf_eq, r_inLo, cp_s, nI_toInt (by omega), decide_eq_false (show ¬ ((10 : Int64).toInt ≤ ((wat T L B : Nat) : Int) ∧ ((wat T L B : Nat) : Int) ≤ (11 : Int64).toInt) from fun w => by have := w.2; rw [show (11 : Int64).toInt = 11 from rfl] at this; omega), if_pos bf_eq, bn_e, if_neg (show ¬ nI (wat T L B) < (12 : Int32) by rw [li_12]; exact nI_nlt (by omega) (by omega)), hi, show nI (12 + i) - (12 : Int32) = nI i from by rw [li_12, pk_sub (by omega)]; congr 1; omega, e2, cb_s]
      rw [← eC] at S2
      have hx : (if x = 0 then L_X4_readsAll_9 d (bI ap) f (nI (g.1 0 0)) (0 : Int32) s2 else L_X4_readsAll_9 d (bI ap) f (nI (g.1 0 0)) (1 : Int32) s2) = L_X4_readsAll_9 d (bI ap) f (nI (g.1 0 0)) x s2 := by
        rcases S2 with ⟨_, rfl, _, _⟩ | ⟨_, _, rfl, _, _⟩
        · rw [if_neg (by decide)]
        · rw [if_pos rfl]
      dsimp only
      rw [hx]
      refine after s2 x _ S2 f2 (fun hz => ?_)
      rw [eC]; rfl
    · have eC : cSe T L (B, none) g = ((B, some B), g) := by
        unfold cSe
        dsimp only
        rw [hsk, if_neg y1, if_neg (fun w => y2 (Or.inl w)), if_neg (fun w => y2 (Or.inr w)), if_neg y3]; rfl
      have S2 : SR s1 d L T ap g0 g (cSg T L (cSe T L (B, none) g).1, (cSe T L (B, none) g).2) 0 := Or.inr ⟨B, cSg_s (by rw [eC]), rfl, n1.2.1, hM1⟩
      obtain ⟨x', s', e', r', f'⟩ := after s1 0 (nI (g.1 0 0)) S2 Fr2.rf (fun hz => by rw [eC])
      refine ⟨x', s', ?_, r', f'⟩
      rw [← e']
      by_cases z : wat T L B < 16
      · rw [if_pos z, r_inN _ 5 (n := 5) (by decide), cp_s, show wp (nI (wat T L B)) (5 + 1) = false from decide_eq_false (fun w => by rw [nI_toInt (by omega)] at w; omega), bn_e, if_pos bf_eq, r_inLo, cp_s, nI_toInt (by omega), decide_eq_false (show ¬ ((10 : Int64).toInt ≤ ((wat T L B : Nat) : Int) ∧ ((wat T L B : Nat) : Int) ≤ (11 : Int64).toInt) from fun w => by have h1 := w.1; have h2 := w.2; rw [show (11 : Int64).toInt = 11 from rfl] at h2; rw [show (10 : Int64).toInt = 10 from rfl] at h1; omega), if_pos bf_eq, bn_e, if_pos (show nI (wat T L B) < (12 : Int32) by rw [li_12]; exact nI_lt (by omega) (by omega))]
      · rw [if_neg z]
        rfl
end MOOR
