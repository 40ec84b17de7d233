/-! the reference's sentences -/
theorem cNm_s {T : Nat → Nat} {L k f : Nat} {q : PQ} (h : q.2 = some f) : (cNm T L k q).2 = some f := by
  unfold cNm; split
  · exact h
  · show rf q.2 _ = _; rw [h]; rfl
theorem cNu_s {T : Nat → Nat} {L k f : Nat} {q : PQ} (h : q.2 = some f) : (cNu T L k q).2 = some f := by
  unfold cNu; dsimp only; split
  · exact h
  · rw [h]; rfl
theorem cOp_s {T : Nat → Nat} {L k most z f : Nat} {q : PQ} (h : q.2 = some f) : (cOp T L k most z q).2.2 = some f := by
  unfold cOp; split
  · exact cNu_s (cNm_s h)
  · exact h
theorem cSg_s {T : Nat → Nat} {L f : Nat} {q : PQ} (h : q.2 = some f) : (cSg T L q).2 = some f := by
  unfold cSg; split
  · exact h
  · show rf q.2 _ = _; rw [h]; rfl
theorem dig_let {T : Nat → Nat} {L B : Nat} (h : digB T L B = true) : letB T L B = false := by
  have := of_decide_eq_true h
  exact decide_eq_false (fun w => by omega)
theorem w_tok {T : Nat → Nat} {L B k : Nat} (hk : k < 16) (h : wat T L B = k) : B < L ∧ letB T L B = true ∧ tkN T L B = 1 ∧ edN T L B = B + wln k ∧ B + wln k ≤ L := by
  have w8 := wln_b k hk
  obtain ⟨h1, h2, h3⟩ := isW_iff.mp (show isW T L B k = true by rw [wat_is hk]; exact decide_eq_true h)
  have l0 := wch_let k hk 0 (by omega)
  have t0 := h3 0 (by omega)
  rw [Nat.add_zero] at t0
  have hl : letB T L B = true := decide_eq_true ⟨by omega, by omega, by omega⟩
  have e : enL T L B = B + wln k := wh_eq L B (B + wln k) (by omega) (fun i q1 q2 => by
    have l := wch_let k hk (i - B) (by omega)
    have := h3 (i - B) (by omega)
    rw [show B + (i - B) = i by omega] at this
    exact decide_eq_true ⟨by omega, by omega, by omega⟩) h2 (by omega)
  refine ⟨by omega, hl, ?_, ?_, h1⟩
  · unfold tkN; rw [if_neg (by omega), if_pos hl]
  · unfold edN; rw [if_neg (by omega), if_pos hl, e]
theorem ok_tok {T : Nat → Nat} {L B most : Nat} (h : okNum T L B most = true) : B < L ∧ tkN T L B = 2 ∧ edN T L B = enD T L B ∧ vlN T L B = nI (dv T B (enD T L B - B)) := by
  obtain ⟨h1, h2, h3⟩ := of_decide_eq_true h
  have hd : digB T L B = true := by
    cases q : digB T L B
    · have : enD T L B = B := wh_fix q L
      omega
    · rfl
  have hl := dig_let hd
  have hB := dig_P hd
  refine ⟨hB, ?_, ?_, ?_⟩
  · unfold tkN; rw [if_neg (by omega), hl, if_neg Bool.false_ne_true, if_pos hd]
  · unfold edN; rw [if_neg (by omega), hl, if_neg Bool.false_ne_true, if_pos hd]
  · unfold vlN; rw [if_neg (by omega), hl, if_neg Bool.false_ne_true, if_pos hd, rvn_dv _ _ _ h2]
theorem sg_tok {T : Nat → Nat} {L B : Nat} (hB : B ≤ L) : (tkN T L B = 3 ↔ (B < L ∧ T B = 59)) ∧ (B < L ∧ T B = 59 → edN T L B = B + 1) := by
  unfold tkN edN
  by_cases y0 : B = L
  · rw [if_pos y0]; exact ⟨⟨fun h => by omega, fun h => by omega⟩, fun h => by omega⟩
  · rw [if_neg y0, if_neg y0]
    by_cases y : T B = 59
    · rw [show letB T L B = false from decide_eq_false (fun w => by omega), show digB T L B = false from decide_eq_false (fun w => by omega), if_neg Bool.false_ne_true, if_neg Bool.false_ne_true, if_neg Bool.false_ne_true, if_neg Bool.false_ne_true, if_pos y]
      exact ⟨⟨fun _ => ⟨by omega, y⟩, fun _ => rfl⟩, fun _ => rfl⟩
    · refine ⟨⟨fun h => ?_, fun h => absurd h.2 y⟩, fun h => absurd h.2 y⟩
      exfalso
      split at h
      · omega
      · split at h
        · omega
        · omega
theorem tk_lt (T : Nat → Nat) (L B : Nat) : tkN T L B < 5 := by
  unfold tkN
  repeat' split
  all_goals omega
theorem rvn_1000 (T : Nat → Nat) (b : Nat) {j : Nat} (h : 3 < j) : rvn T b j = 1000 := by
  obtain ⟨i, rfl⟩ : ∃ i, j = i + 1 := ⟨j - 1, by omega⟩
  show (if i < 3 then _ else 1000) = 1000
  rw [if_neg (by omega)]
def SR (s' : St) (d L : Nat) (T : Nat → Nat) (ap : Bool) (g0 g : MS) (r : PQ × MS) (x : Int32) : Prop :=
  (r.1.2 = none ∧ x = 1 ∧ RT s' d L T r.1.1 ∧ MM s' d 0 (if ap = true then r.2 else g0)) ∨ (∃ f, r.1.2 = some f ∧ x = 0 ∧ gF s' d 9 = nI f ∧ MM s' d 0 (if ap = true then g else g0))
def FrQ (d : Nat) (s t : St) : Prop := Fr2 (fun k => k = d + 1) (fun k j => k = d ∧ (8 ≤ j ∧ j ≤ 13)) s t
theorem FrN.q {d : Nat} {s t : St} (h : FrN d s t) : FrQ d s t := Fr2.wk h (fun _ q => q.elim) (fun _ _ q => q)
theorem FrQ.t {d : Nat} {s t u : St} (h : FrQ d s t) (k : FrQ d t u) : FrQ d s u := Fr2.tr h k
section SENTR
variable {s : St} {d L : Nat} {T : Nat → Nat} {p B : Nat} {g0 g gr : MS} {ap : Bool}
theorem MM.n (h : MM s d 0 gr) {t : St} (f : FrN d s t) : MM t d 0 gr := h.fr2 f (fun q => q) (fun q => q) (by omega)
theorem RT.q (h : RT s d L T p) {t : St} {w : Nat → Prop} (f : Fr w s t) (h1 : ¬ w d) (h2 : ¬ w (d + 5)) (h3 : ¬ w (d + 6)) : RT t d L T p := by
  obtain ⟨a1, a2, a3, a4, a5, a6⟩ := h
  exact ⟨((f d h1).1 7).trans a1, ((f d h1).1 8).trans a2, a3, a4, fun i hi => ⟨(a5 i hi).1, ((f (d + 5) h2).2.1 i).trans (a5 i hi).2⟩, fun k hk c hc => ((f (d + 6) h3).2.1 _).trans (a6 k hk c hc)⟩
theorem r_isWord (h : NX s d L T B) {k : Nat} (hk : k < 16) : f_X4_isWord d (nI k) s = some (bI (decide (wat T L B = k))) := by
  have hB := h.1.2.2.1
  have tl := tk_lt T L B
  have wl := wat_le T L B
  unfold f_X4_isWord
  rw [h.2.2.1, h.2.2.2]
  by_cases y : wat T L B = k
  · obtain ⟨h1, h2, h3, h4, h5⟩ := w_tok hk y
    have ev : vlN T L B = nI k := by
      unfold vlN
      rw [if_neg (by omega), if_pos h2, if_pos (by omega), y]
    rw [h3, if_pos (by decide), decide_eq_true y, ev, if_pos rfl]; rfl
  · rw [decide_eq_false y]
    by_cases z : tkN T L B = 1
    · rw [z, if_pos (by decide)]
      have hl : letB T L B = true := by
        unfold tkN at z
        by_cases y0 : B = L
        · rw [if_pos y0] at z; omega
        · rw [if_neg y0] at z
          cases q : letB T L B
          · rw [q, if_neg Bool.false_ne_true] at z
            split at z
            · omega
            · split at z <;> omega
          · rfl
      have hBL := let_P hl
      have ev : vlN T L B = if wat T L B < 16 then nI (wat T L B) else -1 := by
        unfold vlN
        rw [if_neg (by omega), if_pos hl]
      rw [ev]
      split
      · rw [if_neg (fun w => y ((nI_eq (by omega) (by omega)).mp w))]; rfl
      · rw [if_neg (fun w => by
          have := congrArg Int32.toInt w
          rw [nI_toInt (by omega), show ((-1 : Int32)).toInt = -1 from rfl] at this
          omega)]; rfl
    · rw [if_neg (show ¬ nI (tkN T L B) = (1 : Int32) from fun w => z ((nI_eq (by omega) (by omega)).mp (show nI (tkN T L B) = nI 1 from w)))]; rfl
theorem r_readsWord (h : RT s d L T p) {k : Nat} (hk : k < 16) : ∃ s', f_X4_readsWord d (nI k) s = some (bI (decide (wat T L (sk T L p) = k)), s') ∧ NX s' d L T (sk T L p) ∧ FrN d s s' := by
  obtain ⟨s1, e1, n1, f1⟩ := r_next h
  refine ⟨s1, ?_, n1, f1⟩
  unfold f_X4_readsWord
  rw [e1, cw_s, r_isWord n1 hk, cp_s, zb_bI, gd_t]
theorem NX.p13 (h : NX s d L T B) (x : Int32) : NX (pF s d 13 x) d L T B := by
  obtain ⟨h1, h2, h3, h4⟩ := h
  exact ⟨h1.pF (by omega) _, by rw [gF_pF, if_neg (by omega)]; exact h2, by rw [gF_pF, if_neg (by omega)]; exact h3, by rw [gF_pF, if_neg (by omega)]; exact h4⟩
theorem r_reads (h : RT s d L T p) {most : Nat} (hm : most ≤ 99) : ∃ s', f_X4_reads d (nI most) s = some (bI (okNum T L (sk T L p) most), s') ∧ NX s' d L T (sk T L p) ∧ gF s' d 13 = vlN T L (sk T L p) ∧ FrN d s s' := by
  obtain ⟨s1, e1, n1, f1⟩ := r_next h
  obtain ⟨B, hB⟩ : ∃ B, B = sk T L p := ⟨_, rfl⟩
  rw [← hB] at n1 ⊢
  have hBL := sk_le (T := T) h.2.2.1
  rw [← hB] at hBL
  have hL := h.2.2.2.1
  have he := enD_le (T := T) hBL
  have hge : B ≤ enD T L B := enD_ge
  have n2 := n1.p13 (gF s1 d 11)
  refine ⟨pF s1 d 13 (gF s1 d 11), ?_, n2, by rw [gF_pF, if_pos ⟨rfl, rfl⟩]; exact n1.2.2.2, f1.t (f_N (by omega) (by omega))⟩
  unfold f_X4_reads
  rw [e1, cw_s, bn_e, n2.2.2.1, n2.2.2.2]
  have tl := tk_lt T L B
  by_cases z : tkN T L B = 2
  · have hl : ¬ B = L ∧ letB T L B = false ∧ digB T L B = true := by
      unfold tkN at z
      by_cases y0 : B = L
      · rw [if_pos y0] at z; omega
      · rw [if_neg y0] at z
        cases q : letB T L B
        · rw [q, if_neg Bool.false_ne_true] at z
          cases q2 : digB T L B
          · rw [q2, if_neg Bool.false_ne_true] at z
            split at z <;> omega
          · exact ⟨y0, rfl, rfl⟩
        · rw [q, if_pos rfl] at z; omega
    obtain ⟨y0, y1, y2⟩ := hl
    have hd : ∀ i, i < enD T L B - B → T (B + i) ≤ 57 := fun i hi => (of_decide_eq_true (wh_in (P := digB T L) L B (B + i) (by omega) (by show B + i < enD T L B; omega))).2.2
    have hlt : B < enD T L B := by
      have hB' := dig_P y2
      show B < wh (digB T L) L B
      obtain ⟨L', hL'⟩ : ∃ j, L = j + 1 := ⟨L - 1, by omega⟩
      have : B + 1 ≤ wh (digB T L) L B := by
        conv => rhs; rw [hL']
        unfold wh
        rw [← hL', y2, if_pos rfl]
        exact wh_ge L' (B + 1)
      omega
    have rl := rvn_le (T := T) (b := B) (enD T L B - B) hd
    have ev : vlN T L B = nI (rvn T B (enD T L B - B)) := by unfold vlN; rw [if_neg y0, y1, if_neg Bool.false_ne_true, if_pos y2]
    rw [z, if_pos (by decide), ev]
    by_cases w : enD T L B - B ≤ 3
    · have er := rvn_dv T B _ w
      by_cases v : rvn T B (enD T L B - B) ≤ most
      · rw [if_neg (nI_nlt v (by omega)), show okNum T L B most = true from decide_eq_true ⟨hlt, w, by omega⟩]; rfl
      · rw [if_pos (nI_lt (by omega) (by omega)), show okNum T L B most = false from decide_eq_false (fun q => by omega)]; rfl
    · rw [rvn_1000 T B (by omega), if_pos (nI_lt (by omega) (by omega)), show okNum T L B most = false from decide_eq_false (fun q => w q.2.1)]; rfl
  · rw [if_neg (show ¬ nI (tkN T L B) = (2 : Int32) from fun w => z ((nI_eq (by omega) (by omega)).mp (show nI (tkN T L B) = nI 2 from w)))]
    cases q : okNum T L B most
    · rfl
    · exact absurd (ok_tok q).2.1 z
theorem r_tailP (hn : NX s d L T B) (hp : sk T L p = B) (hM : MM s d 0 (if ap = true then g else g0)) (hc : g.1 0 0 < 8) (w e u a : Nat) : ∃ x s', (bn (fun (s9 : St) => (if (gF s9 d 10) = (3 : Int32) then some ((1 : Int32), s9) else some ((0 : Int32), s9))) fun K10 => (if (gF s d 10) = (3 : Int32) then (if bI ap = 0 then K10 s else cb (f_X4_comes d (nI w) (nI e) (nI u) (nI a) s) fun x12 s11 => K10 s11) else K10 s)) = some (x, s') ∧ SR s' d L T ap g0 g (cSg T L (p, none), comeS g w e u a) x ∧ FrQ d s s' := by
  obtain ⟨n1, n2, n3, n4⟩ := hn
  have tl := tk_lt T L B
  have hL := n1.2.2.2.1
  have hB : B ≤ L := by
    have := n1.2.2.1
    unfold edN at this
    by_cases y0 : B = L
    · omega
    · rw [if_neg y0] at this
      split at this
      · have h2 : B ≤ enL T L B := enL_ge
        omega
      · split at this
        · have h2 : B ≤ enD T L B := enD_ge
          omega
        · omega
  obtain ⟨g1, g2⟩ := sg_tok (T := T) hB
  rw [bn_e, n3]
  dsimp only
  by_cases y : B < L ∧ T B = 59
  · have e3 := g1.mpr y
    have eS : cSg T L (p, none) = (B + 1, none) := by unfold cSg; dsimp only; rw [hp, if_pos y]
    rw [e3, if_pos (by decide), eS]
    rw [g2 y] at n1
    cases ap
    · rw [if_pos bf_eq, n3, e3, if_pos (by decide)]
      exact ⟨1, s, rfl, Or.inl ⟨rfl, rfl, n1, hM⟩, Fr2.rf⟩
    · obtain ⟨s2, e2, f2, m2⟩ := r_comes hM hc w e u a
      rw [if_neg bt_ne]
      simp only [if_pos] at e2
      rw [if_pos rfl] at *
      rw [e2, cb_s, (f2 d (by omega)).1, n3, e3, if_pos (by decide)]
      exact ⟨1, s2, rfl, Or.inl ⟨rfl, rfl, n1.q f2 (by omega) (by omega) (by omega), by rw [if_pos rfl]; exact m2⟩, f2.to2⟩
  · have e3 : ¬ tkN T L B = 3 := fun w => y (g1.mp w)
    have e3' : ¬ nI (tkN T L B) = (3 : Int32) := fun w => e3 ((nI_eq (by omega) (by omega)).mp (show nI (tkN T L B) = nI 3 from w))
    have eS : cSg T L (p, none) = (B, some B) := by unfold cSg; dsimp only; rw [hp, if_neg y]; rfl
    rw [if_neg e3', n3, if_neg e3', eS]
    exact ⟨0, s, rfl, Or.inr ⟨B, rfl, rfl, n2, hM⟩, Fr2.rf⟩
end SENTR
