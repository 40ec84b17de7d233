/-! the reference's sentences: people, cells, laws -/
section SENTR2
variable {s : St} {d L : Nat} {T : Nat → Nat} {p B : Nat} {g0 g gr : MS} {ap : Bool}
theorem cNm_e {k : Nat} (h : wat T L (sk T L p) = k) : cNm T L k (p, none) = (sk T L p + wln k, none) := by unfold cNm; rw [if_pos h]
theorem cNm_f {k : Nat} (h : ¬ wat T L (sk T L p) = k) : cNm T L k (p, none) = (sk T L p, some (sk T L p)) := by unfold cNm; rw [if_neg h]; rfl
theorem cNu_e {most : Nat} (h : okNum T L (sk T L p) most = true) : cNu T L most (p, none) = (enD T L (sk T L p), none) ∧ cNv T L most (p, none) = dv T (sk T L p) (enD T L (sk T L p) - sk T L p) := by
  have e : cNu T L most (p, none) = (enD T L (sk T L p), none) := by unfold cNu; rw [if_pos h]
  exact ⟨e, by unfold cNv; rw [e, if_pos rfl]⟩
theorem cNu_f {most : Nat} (h : okNum T L (sk T L p) most = false) : cNu T L most (p, none) = (enD T L (sk T L p), some (sk T L p)) := by unfold cNu; rw [h, if_neg Bool.false_ne_true]; rfl
/-- a number is read and looked behind: what a word's step and a number's step give -/
theorem r_num (h : RT s d L T p) {most : Nat} (hm : most ≤ 99) : ∃ s', FrN d s s' ∧ ((okNum T L (sk T L p) most = false ∧ f_X4_reads d (nI most) s = some (0, s') ∧ gF s' d 9 = nI (sk T L p)) ∨ (okNum T L (sk T L p) most = true ∧ f_X4_reads d (nI most) s = some (1, s') ∧ gF s' d 13 = nI (cNv T L most (p, none)) ∧ RT s' d L T (enD T L (sk T L p)))) := by
  obtain ⟨s1, e1, n1, v1, f1⟩ := r_reads h hm
  refine ⟨s1, f1, ?_⟩
  cases q : okNum T L (sk T L p) most
  · rw [q] at e1; exact Or.inl ⟨rfl, e1, n1.2.1⟩
  · obtain ⟨h1, h2, h3, h4⟩ := ok_tok q
    rw [q] at e1
    refine Or.inr ⟨rfl, e1, ?_, ?_⟩
    · rw [v1, h4, (cNu_e q).2]
    · rw [← h3]; exact n1.1
theorem r_senseP (hn : NX s d L T B) (hp : sk T L p = B) (hM : MM s d 0 (if ap = true then g else g0)) (hc : g.1 0 0 < 8) (w u a : Nat) : ∃ x s', (cp (f_X4_isWord d (8 : Int32) s) fun x8 => (if x8 = 0 then bn (fun (s9 : St) => (if (gF s9 d 10) = (3 : Int32) then some ((1 : Int32), s9) else some ((0 : Int32), s9))) fun K10 => (if (gF s d 10) = (3 : Int32) then (if bI ap = 0 then K10 s else cb (f_X4_comes d (nI w) (0 : Int32) (nI u) (nI a) s) fun x12 s11 => K10 s11) else K10 s) else cb (f_X4_reads d (9 : Int32) s) fun x14 s13 => (if x14 = 0 then some ((0 : Int32), s13) else bn ((gF s13 d 13)) fun x15 => cw (f_X4_next d s13) fun s16 => bn (fun (s17 : St) => (if (gF s17 d 10) = (3 : Int32) then some ((1 : Int32), s17) else some ((0 : Int32), s17))) fun K18 => (if (gF s16 d 10) = (3 : Int32) then (if bI ap = 0 then K18 s16 else cb (f_X4_comes d (nI w) x15 (nI u) (nI a) s16) fun x20 s19 => K18 s19) else K18 s16)))) = some (x, s') ∧ SR s' d L T ap g0 g (cSg T L (cOp T L 8 9 0 (p, none)).2, if (cOp T L 8 9 0 (p, none)).2.2 = none then comeS g w (cOp T L 8 9 0 (p, none)).1 u a else g) x ∧ FrQ d s s' := by
  have hBB : sk T L B = B := by rw [← hp]; exact sk_sk
  rw [show f_X4_isWord d (8 : Int32) s = _ from r_isWord hn (k := 8) (by omega), cp_s]
  by_cases y : wat T L B = 8
  · have eO : cOp T L 8 9 0 (p, none) = (cNv T L 9 (B + wln 8, none), cNu T L 9 (B + wln 8, none)) := by
      unfold cOp
      dsimp only
      rw [hp, if_pos y, cNm_e (by rw [hBB]; exact y), hBB]
    obtain ⟨h1, h2, h3, h4, h5⟩ := w_tok (by omega) y
    have r1 : RT s d L T (B + wln 8) := by rw [← h4]; exact hn.1
    obtain ⟨s2, f2, ⟨o2, e2, b2⟩ | ⟨o2, e2, v2, r2⟩⟩ := r_num r1 (most := 9) (by omega)
    · rw [decide_eq_true y, if_neg bt_ne, li_9, e2, cb_s, if_pos rfl, eO, cNu_f o2]
      exact ⟨0, s2, rfl, Or.inr ⟨sk T L (B + wln 8), cSg_s rfl, rfl, b2, hM.n f2⟩, f2.q⟩
    · obtain ⟨s3, e3, n3, f3⟩ := r_next r2
      obtain ⟨x, s4, e4, S4, f4⟩ := r_tailP n3 rfl ((hM.n f2).n f3) hc w (cNv T L 9 (B + wln 8, none)) u a
      rw [decide_eq_true y, if_neg bt_ne, li_9, e2, cb_s, if_neg (by decide), bn_e, v2, e3, cw_s, eO, (cNu_e o2).1]
      dsimp only
      rw [if_pos rfl]
      exact ⟨x, s4, e4, S4, (f2.t f3).q.t f4⟩
  · have eO : cOp T L 8 9 0 (p, none) = (0, (B, none)) := by
      unfold cOp
      dsimp only
      rw [hp, if_neg y]
    obtain ⟨x, s4, e4, S4, f4⟩ := r_tailP hn hBB hM hc w 0 u a
    rw [decide_eq_false y, if_pos bf_eq, eO]
    dsimp only
    rw [if_pos rfl]
    exact ⟨x, s4, e4, S4, f4⟩
theorem r_person {w : Nat} (h : RT s d L T (B + wln w)) (h9 : gF s d 9 = nI B) (hM : MM s d 0 (if ap = true then g else g0)) (hB : BM g) (hw : w < 6) (hwt : wat T L B = w) (hsk : sk T L B = B) : ∃ x s', f_X4_readsPerson d (nI w) (nI (g.1 0 0)) (bI ap) s = some (x, s') ∧ SR s' d L T ap g0 g (cSg T L (cPer T L w (B, none) g).1, (cPer T L w (B, none) g).2) x ∧ FrQ d s s' := by
  have h8 := hB.1
  unfold f_X4_readsPerson
  by_cases y0 : g.1 0 0 < 8
  · rw [if_neg (show ¬ nI (g.1 0 0) = (8 : Int32) from fun z => by have := (nI_eq (by omega) (by omega)).mp (show nI (g.1 0 0) = nI 8 from z); omega)]
    have eP : cPer T L w (B, none) g = ((cOp T L 8 9 0 (cOp T L 7 99 50 (cNu T L 31 (cNm T L 6 (B + wln w, none)))).2).2, if (cOp T L 8 9 0 (cOp T L 7 99 50 (cNu T L 31 (cNm T L 6 (B + wln w, none)))).2).2.2 = none then comeS g w (cOp T L 8 9 0 (cOp T L 7 99 50 (cNu T L 31 (cNm T L 6 (B + wln w, none)))).2).1 (cOp T L 7 99 50 (cNu T L 31 (cNm T L 6 (B + wln w, none)))).1 (cNv T L 31 (cNm T L 6 (B + wln w, none))) else g) := by
      unfold cPer
      dsimp only
      rw [if_pos y0, cNm_e (by rw [hsk]; exact hwt), hsk]
    rw [eP]
    obtain ⟨s1, e1, n1, f1⟩ := r_readsWord h (k := 6) (by omega)
    rw [show f_X4_readsWord d (6 : Int32) s = _ from e1, cb_s]
    by_cases y1 : wat T L (sk T L (B + wln w)) = 6
    · obtain ⟨t1, t2, t3, t4, t5⟩ := w_tok (by omega) y1
      have r1 : RT s1 d L T (sk T L (B + wln w) + wln 6) := by rw [← t4]; exact n1.1
      rw [decide_eq_true y1, if_neg bt_ne, cNm_e y1]
      obtain ⟨s2, f2, ⟨o2, e2, b2⟩ | ⟨o2, e2, v2, r2⟩⟩ := r_num r1 (most := 31) (by omega)
      · rw [li_31, e2, cb_s, if_pos rfl, cNu_f o2]
        exact ⟨0, s2, rfl, Or.inr ⟨_, cSg_s (cOp_s (cOp_s rfl)), rfl, b2, (hM.n f1).n f2⟩, (f1.t f2).q⟩
      · obtain ⟨s3, e3, n3, f3⟩ := r_next r2
        rw [li_31, e2, cb_s, if_neg (by decide), bn_e, v2, e3, cw_s, (cNu_e o2).1]
        obtain ⟨q3, hq3⟩ : ∃ q3, q3 = enD T L (sk T L (sk T L (B + wln w) + wln 6)) := ⟨_, rfl⟩
        rw [← hq3] at n3 ⊢
        have F3 := (f1.t f2).t f3
        have M3 := hM.n F3
        rw [show f_X4_isWord d (7 : Int32) s3 = _ from r_isWord n3 (k := 7) (by omega), cp_s]
        by_cases y3 : wat T L (sk T L q3) = 7
        · obtain ⟨t1', t2', t3', t4', t5'⟩ := w_tok (by omega) y3
          have r3 : RT s3 d L T (sk T L q3 + wln 7) := by rw [← t4']; exact n3.1
          have eO : cOp T L 7 99 50 (q3, none) = (cNv T L 99 (sk T L q3 + wln 7, none), cNu T L 99 (sk T L q3 + wln 7, none)) := by
            unfold cOp
            dsimp only
            rw [if_pos y3, cNm_e (by rw [sk_sk]; exact y3), sk_sk]
          rw [decide_eq_true y3, if_neg bt_ne, eO]
          obtain ⟨s4, f4, ⟨o4, e4, b4⟩ | ⟨o4, e4, v4, r4⟩⟩ := r_num r3 (most := 99) (by omega)
          · rw [li_99, e4, cb_s, if_pos rfl, cNu_f o4]
            exact ⟨0, s4, rfl, Or.inr ⟨_, cSg_s (cOp_s rfl), rfl, b4, M3.n f4⟩, (F3.t f4).q⟩
          · obtain ⟨s5, e5, n5, f5⟩ := r_next r4
            rw [li_99, e4, cb_s, if_neg (by decide), bn_e, v4, e5, cw_s, (cNu_e o4).1]
            obtain ⟨x, s6, e6, S6, f6⟩ := r_senseP n5 rfl ((M3.n f4).n f5) y0 w (cNv T L 99 (sk T L q3 + wln 7, none)) (cNv T L 31 (sk T L (B + wln w) + wln 6, none))
            exact ⟨x, s6, e6, S6, ((F3.t f4).t f5).q.t f6⟩
        · have eO : cOp T L 7 99 50 (q3, none) = (50, (sk T L q3, none)) := by
            unfold cOp
            dsimp only
            rw [if_neg y3]
          rw [decide_eq_false y3, if_pos bf_eq, eO]
          obtain ⟨x, s6, e6, S6, f6⟩ := r_senseP n3 sk_sk M3 y0 w 50 (cNv T L 31 (sk T L (B + wln w) + wln 6, none))
          exact ⟨x, s6, e6, S6, F3.q.t f6⟩
    · rw [decide_eq_false y1, if_pos bf_eq, cNm_f y1]
      exact ⟨0, s1, rfl, Or.inr ⟨_, cSg_s (cOp_s (cOp_s (cNu_s rfl))), rfl, n1.2.1, hM.n f1⟩, f1.q⟩
  · have e8 : g.1 0 0 = 8 := by omega
    have eF : (cPer T L w (B, none) g).1.2 = some B := by
      unfold cPer
      dsimp only
      rw [if_neg y0]
      exact cOp_s (cOp_s (cNu_s (cNm_s (cNm_s rfl))))
    rw [e8, if_pos (show nI 8 = (8 : Int32) from rfl)]
    exact ⟨0, s, rfl, Or.inr ⟨B, cSg_s eF, rfl, h9, hM⟩, Fr2.rf⟩
/-- the sign behind a change -/
theorem r_tailW (hn : NX s d L T B) (hp : sk T L p = B) (hM : MM s d 0 (if ap = true then g else g0)) (K : (St → Option (Int32 × St)) → Option (Int32 × St)) (g' : MS) (hK0 : ap = false → ∀ k, K k = k s) (hK1 : ap = true → MM s d 0 g → ∃ s2, (∀ k, K k = k s2) ∧ Fr (fun k => k = d + 1) s s2 ∧ MM s2 d 0 g') : ∃ x s', (bn (fun (s9 : St) => (if (gF s9 d 10) = (3 : Int32) then some ((1 : Int32), s9) else some ((0 : Int32), s9))) fun K10 => (if (gF s d 10) = (3 : Int32) then K K10 else K10 s)) = some (x, s') ∧ SR s' d L T ap g0 g (cSg T L (p, none), g') x ∧ FrQ d s s' := by
  obtain ⟨n1, n2, n3, n4⟩ := hn
  have tl := tk_lt T L B
  have hL := n1.2.2.2.1
  have hB : B ≤ L := by
    have := n1.2.2.1
    unfold edN at this
    by_cases y0 : B = L
    · omega
    · rw [if_neg y0] at this
      split at this
      · have h2 : B ≤ enL T L B := enL_ge
        omega
      · split at this
        · have h2 : B ≤ enD T L B := enD_ge
          omega
        · omega
  obtain ⟨g1, g2⟩ := sg_tok (T := T) hB
  rw [bn_e, n3]
  dsimp only
  by_cases y : B < L ∧ T B = 59
  · have e3 := g1.mpr y
    have eS : cSg T L (p, none) = (B + 1, none) := by unfold cSg; dsimp only; rw [hp, if_pos y]
    rw [e3, if_pos (by decide), eS]
    rw [g2 y] at n1
    cases ap
    · rw [hK0 rfl, n3, e3, if_pos (by decide)]
      exact ⟨1, s, rfl, Or.inl ⟨rfl, rfl, n1, hM⟩, Fr2.rf⟩
    · obtain ⟨s2, k2, f2, m2⟩ := hK1 rfl hM
      rw [k2, (f2 d (by omega)).1, n3, e3, if_pos (by decide)]
      exact ⟨1, s2, rfl, Or.inl ⟨rfl, rfl, n1.q f2 (by omega) (by omega) (by omega), m2⟩, f2.to2⟩
  · have e3 : ¬ tkN T L B = 3 := fun w => y (g1.mp w)
    have e3' : ¬ nI (tkN T L B) = (3 : Int32) := fun w => e3 ((nI_eq (by omega) (by omega)).mp (show nI (tkN T L B) = nI 3 from w))
    have eS : cSg T L (p, none) = (B, some B) := by unfold cSg; dsimp only; rw [hp, if_neg y]; rfl
    rw [if_neg e3', n3, if_neg e3', eS]
    exact ⟨0, s, rfl, Or.inr ⟨B, rfl, rfl, n2, hM⟩, Fr2.rf⟩
theorem r_cell {w most f : Nat} (hwc : (w = 10 ∧ most = 9 ∧ f = 2) ∨ (w = 11 ∧ most = 99 ∧ f = 3)) (h : RT s d L T (B + wln w)) (hM : MM s d 0 (if ap = true then g else g0)) (hB : BM g) (hwt : wat T L B = w) (hsk : sk T L B = B) : ∃ x s', f_X4_readsCell d (nI w) (bI ap) s = some (x, s') ∧ SR s' d L T ap g0 g (cSg T L (cCell T L w most f (B, none) g).1, (cCell T L w most f (B, none) g).2) x ∧ FrQ d s s' := by
  have h8 := hB.1
  have hm : most ≤ 99 := by omega
  have eP : cCell T L w most f (B, none) g = (cNu T L most (cNm T L 9 (cNu T L 31 (B + wln w, none))), setR g f (upN (g.1 f) (cNv T L 31 (B + wln w, none)) (cNv T L most (cNm T L 9 (cNu T L 31 (B + wln w, none)))))) := by
    unfold cCell
    dsimp only
    rw [cNm_e (by rw [hsk]; exact hwt), hsk]
  rw [eP]
  unfold f_X4_readsCell
  obtain ⟨s1, f1, ⟨o1, e1, b1⟩ | ⟨o1, e1, v1, r1⟩⟩ := r_num h (most := 31) (by omega)
  · rw [li_31, e1, cb_s, if_pos rfl, cNu_f o1]
    exact ⟨0, s1, rfl, Or.inr ⟨_, cSg_s (cNu_s (cNm_s rfl)), rfl, b1, hM.n f1⟩, f1.q⟩
  rw [li_31, e1, cb_s, if_neg (by decide), bn_e, v1, (cNu_e o1).1]
  have lc := cNv_le (T := T) (L := L) (most := 31) (q := (B + wln w, none))
  obtain ⟨q1, hq1⟩ : ∃ q1, q1 = enD T L (sk T L (B + wln w)) := ⟨_, rfl⟩
  obtain ⟨c, hc⟩ : ∃ c, c = cNv T L 31 (B + wln w, none) := ⟨_, rfl⟩
  rw [← hq1] at r1 ⊢
  rw [← hc] at lc ⊢
  obtain ⟨s2, e2, n2, f2⟩ := r_readsWord r1 (k := 9) (by omega)
  rw [show f_X4_readsWord d (9 : Int32) s1 = _ from e2, cb_s]
  by_cases y2 : wat T L (sk T L q1) = 9
  · obtain ⟨t1, t2, t3, t4, t5⟩ := w_tok (by omega) y2
    have r2 : RT s2 d L T (sk T L q1 + wln 9) := by rw [← t4]; exact n2.1
    rw [decide_eq_true y2, if_neg bt_ne, cNm_e y2, bn_e]
    have F2 := f1.t f2
    obtain ⟨s3, f3, h3⟩ := r_num r2 (most := most) hm
    have em : ∀ {α : Type} (K : Int32 → Option α), (if nI w = (10 : Int32) then K (9 : Int32) else K (99 : Int32)) = K (nI most) := by
      intro α K
      rcases hwc with ⟨rfl, rfl, rfl⟩ | ⟨rfl, rfl, rfl⟩
      · rw [if_pos (by decide)]; rfl
      · rw [if_neg (by decide)]; rfl
    dsimp only
    rw [em (fun t6 => cb (f_X4_reads d t6 s2) _)]
    try dsimp only
    obtain ⟨o3, e3, b3⟩ | ⟨o3, e3, v3, r3⟩ := h3
    · rw [e3, cb_s, if_pos rfl, cNu_f o3]
      exact ⟨0, s3, rfl, Or.inr ⟨_, cSg_s rfl, rfl, b3, hM.n (F2.t f3)⟩, (F2.t f3).q⟩
    · obtain ⟨s4, e4, n4, f4⟩ := r_next r3
      have lv := cNv_le (T := T) (L := L) (most := most) (q := (sk T L q1 + wln 9, none))
      have F4 := (F2.t f3).t f4
      rw [e3, cb_s, if_neg (by decide), bn_e, v3, e4, cw_s, (cNu_e o3).1]
      obtain ⟨v, hv⟩ : ∃ v, v = cNv T L most (sk T L q1 + wln 9, none) := ⟨_, rfl⟩
      rw [← hv] at lv ⊢
      obtain ⟨x, s5, e5, S5, f5⟩ := r_tailW (g' := setR g f (upN (g.1 f) c v)) n4 rfl (hM.n F4) (fun K13 => (if bI ap = 0 then K13 s4 else bn (fun (t14 : Int32) => gd (ib (t14 + nI c) 103) (bn (pA s4 (d + 1) (ix (t14 + nI c)) (nI v)) fun s17 => K13 s17)) fun K15 => (if nI w = (10 : Int32) then K15 (7 : Int32) else K15 (39 : Int32)))) (fun ha k => by rw [ha, if_pos bf_eq]) (fun ha hm4 => by
        rcases hwc with ⟨rfl, rfl, rfl⟩ | ⟨rfl, rfl, rfl⟩
        · refine ⟨pA s4 (d + 1) (7 + c) (nI v), fun k => ?_, Fr.pA rfl, hm4.pH h8 (by omega)⟩
          rw [ha, if_neg bt_ne, bn_e, if_pos (by decide)]
          dsimp only
          rw [show (7 : Int32) + nI c = nI (7 + c) from nI_add 7 c, gd_n (show 7 + c < 103 by omega) (by omega), ix_n (by omega), bn_e]
        · refine ⟨pA s4 (d + 1) (39 + c) (nI v), fun k => ?_, Fr.pA rfl, hm4.pW h8 (by omega)⟩
          rw [ha, if_neg bt_ne, bn_e, if_neg (by decide)]
          dsimp only
          rw [show (39 : Int32) + nI c = nI (39 + c) from nI_add 39 c, gd_n (show 39 + c < 103 by omega) (by omega), ix_n (by omega), bn_e])
      exact ⟨x, s5, e5, S5, F4.q.t f5⟩
  · rw [decide_eq_false y2, if_pos bf_eq, cNm_f y2]
    exact ⟨0, s2, rfl, Or.inr ⟨_, cSg_s (cNu_s rfl), rfl, n2.2.1, hM.n (f1.t f2)⟩, (f1.t f2).q⟩
theorem r_law {i : Nat} (hi : i < 4) (h : RT s d L T (B + wln (12 + i))) (hM : MM s d 0 (if ap = true then g else g0)) (hwt : wat T L B = 12 + i) (hsk : sk T L B = B) : ∃ x s', f_X4_readsLaw d (nI i) (bI ap) s = some (x, s') ∧ SR s' d L T ap g0 g (cSg T L (cLaw T L i (B, none) g).1, (cLaw T L i (B, none) g).2) x ∧ FrQ d s s' := by
  have lm : lawMax i ≤ 99 := by unfold lawMax; (repeat' split) <;> omega
  have eP : cLaw T L i (B, none) g = (cNu T L (lawMax i) (B + wln (12 + i), none), setR g 1 (upN (g.1 1) i (cNv T L (lawMax i) (B + wln (12 + i), none)))) := by
    unfold cLaw
    dsimp only
    rw [cNm_e (by rw [hsk]; exact hwt), hsk]
  rw [eP]
  unfold f_X4_readsLaw
  have em : ∀ {α : Type} (K : Int32 → Option α), (if (2 : Int32) ≤ nI i then (if nI i = (2 : Int32) then K (50 : Int32) else K (99 : Int32)) else K (9 : Int32)) = K (nI (lawMax i)) := by
    intro α K
    rcases (by omega : i = 0 ∨ i = 1 ∨ i = 2 ∨ i = 3) with rfl | rfl | rfl | rfl
    · rw [if_neg (by decide)]; rfl
    · rw [if_neg (by decide)]; rfl
    · rw [if_pos (by decide), if_pos (by decide)]; rfl
    · rw [if_pos (by decide), if_neg (by decide)]; rfl
  rw [bn_e, em (fun t1 => cb (f_X4_reads d t1 s) _)]
  try dsimp only
  obtain ⟨s3, f3, ⟨o3, e3, b3⟩ | ⟨o3, e3, v3, r3⟩⟩ := r_num h (most := lawMax i) lm
  · rw [e3, cb_s, if_pos rfl, cNu_f o3]
    exact ⟨0, s3, rfl, Or.inr ⟨_, cSg_s rfl, rfl, b3, hM.n f3⟩, f3.q⟩
  · obtain ⟨s4, e4, n4, f4⟩ := r_next r3
    have F4 := f3.t f4
    rw [e3, cb_s, if_neg (by decide), bn_e, v3, e4, cw_s, (cNu_e o3).1]
    obtain ⟨v, hv⟩ : ∃ v, v = cNv T L (lawMax i) (B + wln (12 + i), none) := ⟨_, rfl⟩
    rw [← hv]
    obtain ⟨x, s5, e5, S5, f5⟩ := r_tailW (g' := setR g 1 (upN (g.1 1) i v)) n4 rfl (hM.n F4) (fun K8 => (if bI ap = 0 then K8 s4 else gd (ib (nI i) 103) (bn (pA s4 (d + 1) (ix (nI i)) (nI v)) fun s10 => K8 s10))) (fun ha k => by rw [ha, if_pos bf_eq]) (fun ha hm4 => by
      refine ⟨pA s4 (d + 1) i (nI v), fun k => ?_, Fr.pA rfl, hm4.pLaw hi⟩
      rw [ha, if_neg bt_ne, gd_n (show i < 103 by omega) (by omega), ix_n (by omega), bn_e])
    exact ⟨x, s5, e5, S5, F4.q.t f5⟩
end SENTR2
