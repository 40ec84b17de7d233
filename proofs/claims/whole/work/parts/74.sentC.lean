/-! the class's sentences -/
def RS (s : St) (b a L : Nat) (T : Nat → Nat) (r : PQ × MS) : Prop := TS s b L T r.1 ∧ CM s a 0 r.2 ∧ BM r.2
def FrS (b a : Nat) (s t : St) : Prop := Fr2 (wM a) (fun k j => k = b ∧ (j = 2 ∨ j = 3)) s t
theorem FrT.s {b a : Nat} {s t : St} (h : FrT b s t) : FrS b a s t := Fr2.wk h (fun _ q => q.elim) (fun _ _ q => q)
theorem FrT.t {b : Nat} {s t u : St} (h : FrT b s t) (k : FrT b t u) : FrT b s u := Fr2.tr h k
theorem rf_ne (fl : Option Nat) (b : Nat) : rf fl b ≠ none := by
  unfold rf
  split <;> exact fun w => by cases w
theorem cNm_n {T : Nat → Nat} {L k : Nat} {q : PQ} (h : (cNm T L k q).2 = none) : q.2 = none ∧ wat T L (sk T L q.1) = k := by
  unfold cNm at h
  by_cases y : wat T L (sk T L q.1) = k
  · rw [if_pos y] at h; exact ⟨h, y⟩
  · rw [if_neg y] at h; exact absurd h (rf_ne _ _)
theorem cNu_n {T : Nat → Nat} {L k : Nat} {q : PQ} (h : (cNu T L k q).2 = none) : q.2 = none ∧ okNum T L (sk T L q.1) k = true := by
  unfold cNu at h
  dsimp only at h
  by_cases y : okNum T L (sk T L q.1) k = true
  · rw [if_pos y] at h; exact ⟨h, y⟩
  · rw [if_neg y] at h; exact absurd h (rf_ne _ _)
theorem cOp_n {T : Nat → Nat} {L k most z : Nat} {q : PQ} (h : (cOp T L k most z q).2.2 = none) : q.2 = none := by
  unfold cOp at h
  by_cases y : wat T L (sk T L q.1) = k
  · rw [if_pos y] at h; exact (cNm_n (cNu_n h).1).1
  · rw [if_neg y] at h; exact h
theorem cSg_n {T : Nat → Nat} {L : Nat} {q : PQ} (h : (cSg T L q).2 = none) : q.2 = none ∧ (sk T L q.1 < L ∧ T (sk T L q.1) = 59) := by
  unfold cSg at h
  by_cases y : sk T L q.1 < L ∧ T (sk T L q.1) = 59
  · rw [if_pos y] at h; exact ⟨h, y⟩
  · rw [if_neg y] at h; exact absurd h (rf_ne _ _)
theorem cOp_le {T : Nat → Nat} {L k most z : Nat} {q : PQ} (hz : z ≤ most) : (cOp T L k most z q).1 ≤ most := by
  unfold cOp
  split
  · exact cNv_le
  · exact hz
theorem BM.setH {m : MS} (hB : BM m) {c v : Nat} (hv : v ≤ 9) : BM (setR m 2 (upN (m.1 2) c v)) := by
  refine ⟨hB.1, hB.2.1, hB.2.2.1, hB.2.2.2.1, fun x hx => ⟨?_, (hB.2.2.2.2.1 x hx).2⟩, hB.2.2.2.2.2⟩
  show (if x = c then v else m.1 2 x) ≤ 9
  split
  · exact hv
  · exact (hB.2.2.2.2.1 x hx).1
section SENTC
variable {s : St} {a b L : Nat} {T : Nat → Nat} {q : PQ} {g : MS}
theorem TS.fr (h : TS s b L T q) {t : St} {w : Nat → Prop} (f : Fr w s t) (h1 : ¬ w b) (h2 : ¬ w (b + 1)) : TS t b L T q := by
  obtain ⟨h1', h2', h3, h4, h5, h6, h7⟩ := h
  exact ⟨((f b h1).1 1).trans h1', ((f b h1).1 2).trans h2', ((f b h1).1 3).trans h3, h4, h5, h6, fun i hi => ⟨(h7 i hi).1, ((f (b + 1) h2).2.1 i).trans (h7 i hi).2⟩⟩
theorem CM.frT (h : CM s a 0 g) {t : St} (f : FrT b s t) (hab : a + 8 < b) : CM t a 0 g := h.fr2 f (fun _ _ _ q => q) (fun j => by omega)
theorem c_readCell (h : TS s b L T q) : ∃ s', f_X2_readCell b s = some (nI (cNv T L 31 q), s') ∧ TS s' b L T (cNm T L 9 (cNu T L 31 q)) ∧ FrT b s s' := by
  obtain ⟨s1, e1, t1, f1⟩ := c_readNumber h (most := 31) (by omega)
  obtain ⟨s2, e2, t2, f2⟩ := c_readName t1 (k := 9) (by omega)
  refine ⟨s2, ?_, t2, f1.tr f2⟩
  unfold f_X2_readCell
  rw [li_31, e1, cb_s, show f_X2_readName b 2014 s1 = some s2 from e2, cw_s]
theorem c_op (h : TS s b L T q) {k most z : Nat} (hk : k < 16) (hm : most ≤ 99) (r : Nat) (hr : r = 2000 + rho k) (K : Int32 → St → Option St) : ∃ s', (cb (f_X2_isHere b r s) fun x10 s9 => (if x10 = 0 then K (nI z) s9 else cw (f_X2_readName b r s9) fun s14 => cb (f_X2_readNumber b (nI most) s14) fun x16 s15 => K x16 s15)) = K (nI (cOp T L k most z q).1) s' ∧ TS s' b L T (cOp T L k most z q).2 ∧ FrT b s s' := by
  subst hr
  obtain ⟨s1, e1, t1, f1⟩ := c_isHere h hk
  unfold cOp
  rw [e1, cb_s]
  by_cases y : wat T L (sk T L q.1) = k
  · obtain ⟨s2, e2, t2, f2⟩ := c_readName t1 hk
    obtain ⟨s3, e3, t3, f3⟩ := c_readNumber t2 hm
    rw [decide_eq_true y, if_neg bt_ne, e2, cw_s, e3, cb_s, if_pos y]
    exact ⟨s3, rfl, t3, (f1.tr f2).tr f3⟩
  · rw [decide_eq_false y, if_pos bf_eq, if_neg y]
    exact ⟨s1, rfl, t1, f1⟩
theorem c_person (hab : a + 8 < b) (h : RS s b a L T (q, g)) {w : Nat} (hw : w < 6) : ∃ s', f_X2_readPerson b a (nI w) s = some s' ∧ RS s' b a L T (cPer T L w q g) ∧ FrS b a s s' := by
  obtain ⟨hT, hC, hB⟩ := h
  dsimp only at hT hC hB
  have hL := hT.2.2.2.2.1
  have hp := hT.2.2.2.1
  have h8 := hB.1
  have eN : f_X2_kindName (nI w) = some (2000 + rho w) := by
    rcases (by omega : w = 0 ∨ w = 1 ∨ w = 2 ∨ w = 3 ∨ w = 4 ∨ w = 5) with rfl | rfl | rfl | rfl | rfl | rfl <;> decide +kernel
  obtain ⟨q1, hq1⟩ : ∃ q1 : PQ, q1 = (if g.1 0 0 < 8 then q else (q.1, rf q.2 q.1)) := ⟨_, rfl⟩
  -- the rest, from the state behind the first look
  have rest : ∀ s1 : St, TS s1 b L T q1 → FrT b s s1 → ∃ s', (cp (f_X2_kindName (nI w)) fun x4 => cw (f_X2_readName b x4 s1) fun s5 => cw (f_X2_readName b 2010 s5) fun s6 => cb (f_X2_readNumber b (31 : Int32) s6) fun x8 s7 => cb (f_X2_isHere b 2011 s7) fun x10 s9 => bn (fun (t11 : Int32) (s12 : St) => cb (f_X2_isHere b 2012 s12) fun x18 s17 => bn (fun (t19 : Int32) (s20 : St) => (if 0 ≤ (gF s20 b 3) then some s20 else cb (f_X1_comes a (nI w) t19 t11 x8 s20) fun x26 s25 => some s25)) fun K21 => (if x18 = 0 then K21 (0 : Int32) s17 else cw (f_X2_readName b 2012 s17) fun s22 => cb (f_X2_readNumber b (9 : Int32) s22) fun x24 s23 => K21 x24 s23)) fun K13 => (if x10 = 0 then K13 (50 : Int32) s9 else cw (f_X2_readName b 2011 s9) fun s14 => cb (f_X2_readNumber b (99 : Int32) s14) fun x16 s15 => K13 x16 s15)) = some s' ∧ RS s' b a L T (cPer T L w q g) ∧ FrS b a s s' := by
    intro s1 t1 f1
    obtain ⟨s2, e2, t2, f2⟩ := c_readName t1 (k := w) (by omega)
    obtain ⟨s3, e3, t3, f3⟩ := c_readName t2 (k := 6) (by omega)
    obtain ⟨s4, e4, t4, f4⟩ := c_readNumber t3 (most := 31) (by omega)
    rw [eN, cp_s, e2, cw_s, show f_X2_readName b 2010 s2 = some s3 from e3, cw_s, li_31, e4, cb_s]
    simp only [bn_e]
    obtain ⟨s5, e5, t5, f5⟩ := c_op t4 (k := 7) (most := 99) (z := 50) (by omega) (by omega) 2011 rfl (fun (t11 : Int32) (s12 : St) => cb (f_X2_isHere b 2012 s12) fun x18 s17 => (if x18 = 0 then (if 0 ≤ (gF s17 b 3) then some s17 else cb (f_X1_comes a (nI w) 0 t11 (nI (cNv T L 31 (cNm T L 6 (cNm T L w q1)))) s17) fun x26 s25 => some s25) else cw (f_X2_readName b 2012 s17) fun s22 => cb (f_X2_readNumber b (9 : Int32) s22) fun x24 s23 => (if 0 ≤ (gF s23 b 3) then some s23 else cb (f_X1_comes a (nI w) x24 t11 (nI (cNv T L 31 (cNm T L 6 (cNm T L w q1)))) s23) fun x26 s25 => some s25)))
    obtain ⟨s6, e6, t6, f6⟩ := c_op t5 (k := 8) (most := 9) (z := 0) (by omega) (by omega) 2012 rfl (fun (t19 : Int32) (s20 : St) => (if 0 ≤ (gF s20 b 3) then some s20 else cb (f_X1_comes a (nI w) t19 (nI (cOp T L 7 99 50 (cNu T L 31 (cNm T L 6 (cNm T L w q1)))).1) (nI (cNv T L 31 (cNm T L 6 (cNm T L w q1)))) s20) fun x26 s25 => some s25))
    have e5' := e5.trans e6
    have F6 : FrT b s s6 := ((((f1.t f2).t f3).t f4).t f5).t f6
    have C6 := hC.frT F6 hab
    have eP : cPer T L w q g = ((cOp T L 8 9 0 (cOp T L 7 99 50 (cNu T L 31 (cNm T L 6 (cNm T L w q1)))).2).2, if (cOp T L 8 9 0 (cOp T L 7 99 50 (cNu T L 31 (cNm T L 6 (cNm T L w q1)))).2).2.2 = none then comeS g w (cOp T L 8 9 0 (cOp T L 7 99 50 (cNu T L 31 (cNm T L 6 (cNm T L w q1)))).2).1 (cOp T L 7 99 50 (cNu T L 31 (cNm T L 6 (cNm T L w q1)))).1 (cNv T L 31 (cNm T L 6 (cNm T L w q1))) else g) := by rw [hq1]; rfl
    rw [eP]
    cases hz : (cOp T L 8 9 0 (cOp T L 7 99 50 (cNu T L 31 (cNm T L 6 (cNm T L w q1)))).2).2.2 with
    | some f =>
      have hf := t6.2.2.2.2.2.1 f hz
      rw [if_neg (fun z => by cases z)]
      refine ⟨s6, ?_, ⟨t6, C6, hB⟩, F6.s⟩
      refine Eq.trans e5' ?_
      rw [t6.2.2.1, hz, show flI (some f) = nI f from rfl, if_pos (nI_pos' (by omega))]
    | none =>
      have n1 : q1.2 = none := (cNm_n (cNm_n (cNu_n (cOp_n (cOp_n hz))).1).1).1
      have hc8 : g.1 0 0 < 8 := by
        by_cases z : g.1 0 0 < 8
        · exact z
        · rw [hq1, if_neg z] at n1; exact absurd n1 (rf_ne _ _)
      obtain ⟨s7, e7, f7, g7⟩ := c_comes C6 hc8 w (cOp T L 8 9 0 (cOp T L 7 99 50 (cNu T L 31 (cNm T L 6 (cNm T L w q1)))).2).1 (cOp T L 7 99 50 (cNu T L 31 (cNm T L 6 (cNm T L w q1)))).1 (cNv T L 31 (cNm T L 6 (cNm T L w q1)))
      rw [if_pos rfl]
      refine ⟨s7, ?_, ⟨t6.fr f7 (by unfold wM; omega) (by unfold wM; omega), g7, hB.come hc8 (by omega) (cOp_le (by omega)) (cOp_le (by omega)) cNv_le⟩, F6.s.tr f7.to2⟩
      refine Eq.trans e5' ?_
      rw [t6.2.2.1, hz, show flI none = -1 from rfl, if_neg (by decide), e7, cb_s]
  unfold f_X2_readPerson
  rw [bn_e, hC.2.2.1]
  dsimp only
  by_cases y : g.1 0 0 < 8
  · rw [if_pos (by rw [li_8]; exact nI_lt y (by omega))]
    exact rest s (by rw [hq1, if_pos y]; exact hT) Fr2.rf
  · obtain ⟨s1, e1, t1, f1⟩ := c_refuse hT (x := q.1) (by omega)
    rw [if_neg (by rw [li_8]; exact nI_nlt (by omega) (by omega)), hT.2.1, e1, cw_s]
    exact rest s1 (by rw [hq1, if_neg y]; exact t1) f1
theorem c_sent (hab : a + 8 < b) (h : RS s b a L T (q, g)) : ∃ s', f_X2_readSentence b a s = some s' ∧ RS s' b a L T (cSe T L q g) ∧ FrS b a s s' := by
  obtain ⟨hT, hC, hB⟩ := h
  dsimp only at hT hC hB
  have hL := hT.2.2.2.2.1
  have hp := sk_le (T := T) hT.2.2.2.1
  obtain ⟨s1, e1, t1, f1⟩ := c_kindHere hT
  obtain ⟨s2, e2, t2, f2⟩ := c_lawHere t1
  dsimp only at e2 t2
  rw [sk_sk] at e2 t2
  have F2 := f1.t f2
  have C2 := hC.frT F2 hab
  have wl := wat_le T L (sk T L q.1)
  unfold f_X2_readSentence cSe
  rw [e1, cb_s, e2, cb_s]
  dsimp only
  by_cases y1 : wat T L (sk T L q.1) < 6
  · obtain ⟨s3, e3, r3, f3⟩ := c_person hab ⟨t2, C2, hB⟩ y1
    rw [if_pos y1, if_neg (nI_pos (by omega)), e3, cw_s, if_pos y1]
    exact ⟨s3, rfl, r3, F2.s.tr f3⟩
  rw [if_neg y1, if_pos (show (-1 : Int32) < 0 by decide), if_neg y1]
  obtain ⟨s3, e3, t3, f3⟩ := c_isHere t2 (k := 10) (by omega)
  dsimp only at e3 t3
  rw [sk_sk] at e3 t3
  have F3 := F2.t f3
  rw [show f_X2_isHere b 2013 s2 = _ from e3, cb_s]
  by_cases y2 : wat T L (sk T L q.1) = 10
  · rw [decide_eq_true y2, if_neg bt_ne, if_pos y2]
    obtain ⟨s4, e4, t4, f4⟩ := c_readName t3 (k := 10) (by omega)
    obtain ⟨s5, e5, t5, f5⟩ := c_readCell t4
    obtain ⟨s6, e6, t6, f6⟩ := c_readNumber t5 (most := 9) (by omega)
    have F6 := ((F3.t f4).t f5).t f6
    have C6 := hC.frT F6 hab
    have l1 := cNv_le (T := T) (L := L) (most := 31) (q := cNm T L 10 (sk T L q.1, q.2))
    have l2 := cNv_le (T := T) (L := L) (most := 9) (q := cNm T L 9 (cNu T L 31 (cNm T L 10 (sk T L q.1, q.2))))
    obtain ⟨s7, e7, f7, g7⟩ := c_raise C6 hB (c := cNv T L 31 (cNm T L 10 (sk T L q.1, q.2))) (v := cNv T L 9 (cNm T L 9 (cNu T L 31 (cNm T L 10 (sk T L q.1, q.2))))) (by omega) l2
    refine ⟨s7, ?_, ⟨t6.fr f7 (by omega) (by omega), g7, hB.setH l2⟩, F6.s.tr ((f7.wk (fun k q => by unfold wM; omega)).to2)⟩
    rw [show f_X2_readName b 2013 s3 = some s4 from e4, cw_s, e5, cb_s, li_9, e6, cb_s, e7, cw_s]
  rw [decide_eq_false y2, if_pos bf_eq, if_neg y2]
  obtain ⟨s4, e4, t4, f4⟩ := c_isHere t3 (k := 11) (by omega)
  dsimp only at e4 t4
  rw [sk_sk] at e4 t4
  have F4 := F3.t f4
  rw [show f_X2_isHere b 2015 s3 = _ from e4, cb_s]
  by_cases y3 : wat T L (sk T L q.1) = 11
  · rw [decide_eq_true y3, if_neg bt_ne, if_pos y3]
    obtain ⟨s5, e5, t5, f5⟩ := c_readName t4 (k := 11) (by omega)
    obtain ⟨s6, e6, t6, f6⟩ := c_readCell t5
    obtain ⟨s7, e7, t7, f7⟩ := c_readNumber t6 (most := 99) (by omega)
    have F7 := ((F4.t f5).t f6).t f7
    have C7 := hC.frT F7 hab
    have l1 := cNv_le (T := T) (L := L) (most := 31) (q := cNm T L 11 (sk T L q.1, q.2))
    have l2 := cNv_le (T := T) (L := L) (most := 99) (q := cNm T L 9 (cNu T L 31 (cNm T L 11 (sk T L q.1, q.2))))
    have g8 := C7.pW (c := cNv T L 31 (cNm T L 11 (sk T L q.1, q.2))) (v := cNv T L 99 (cNm T L 9 (cNu T L 31 (cNm T L 11 (sk T L q.1, q.2))))) (by omega)
    have f8 : Fr (fun k => k = a + 3) s7 (pA s7 (a + 3) (cNv T L 31 (cNm T L 11 (sk T L q.1, q.2))) (nI (cNv T L 99 (cNm T L 9 (cNu T L 31 (cNm T L 11 (sk T L q.1, q.2))))))) := Fr.pA rfl
    refine ⟨_, ?_, ⟨t7.fr f8 (by omega) (by omega), g8, hB.setW (fun c hc => ?_)⟩, F7.s.tr ((f8.wk (fun k q => by unfold wM; omega)).to2)⟩
    · rw [show f_X2_readName b 2015 s4 = some s5 from e5, cw_s, e6, cb_s, li_99, e7, cb_s, gd_n (show cNv T L 31 (cNm T L 11 (sk T L q.1, q.2)) < 32 by omega) (by omega), ix_n (by omega), bn_e]
    · show (if c = _ then _ else g.1 3 c) ≤ 99
      split
      · exact l2
      · exact (hB.2.2.2.2.1 c hc).2
  rw [decide_eq_false y3, if_pos bf_eq, if_neg y3]
  by_cases y4 : 12 ≤ wat T L (sk T L q.1) ∧ wat T L (sk T L q.1) < 16
  · obtain ⟨i, hi⟩ : ∃ i, wat T L (sk T L q.1) = 12 + i := ⟨wat T L (sk T L q.1) - 12, by omega⟩
    rw [if_pos y4, if_pos y4, hi, show 12 + i - 12 = i by omega, if_neg (nI_pos (by omega))]
    have hi4 : i < 4 := by omega
    have eN : f_X2_lawName (nI i) = some (2000 + rho (12 + i)) := by
      rcases (by omega : i = 0 ∨ i = 1 ∨ i = 2 ∨ i = 3) with rfl | rfl | rfl | rfl <;> decide +kernel
    have lm : lawMax i ≤ 99 := by unfold lawMax; (repeat' split) <;> omega
    have es : stV 1 i = nI (lawMax i) := Int32.toInt_inj.mp (by rw [stV1 i hi4, nI_toInt (by omega)])
    obtain ⟨s5, e5, t5, f5⟩ := c_readName t4 (k := 12 + i) (by omega)
    obtain ⟨s6, e6, t6, f6⟩ := c_readNumber t5 (most := lawMax i) lm
    have F6 := (F4.t f5).t f6
    have C6 := hC.frT F6 hab
    have l1 := cNv_le (T := T) (L := L) (most := lawMax i) (q := cNm T L (12 + i) (sk T L q.1, q.2))
    have g7 := C6.pLaw (i := i) (v := cNv T L (lawMax i) (cNm T L (12 + i) (sk T L q.1, q.2)))
    have f7 : Fr (fun k => k = a + 1) s6 (pA s6 (a + 1) i (nI (cNv T L (lawMax i) (cNm T L (12 + i) (sk T L q.1, q.2))))) := Fr.pA rfl
    refine ⟨_, ?_, ⟨t6.fr f7 (by omega) (by omega), g7, hB.setL ?_ ?_ ?_⟩, F6.s.tr ((f7.wk (fun k q => by unfold wM; omega)).to2)⟩
    · rw [eN, cp_s, e5, cw_s, gd_n hi4 (by omega), ix_n (by omega), es, e6, cb_s, gd_n hi4 (by omega), bn_e]
    · intro z; have e : lawMax i = 9 := if_pos z; omega
    · intro z; have e : lawMax i = 50 := (if_neg (by omega)).trans (if_pos z); omega
    · intro z; have e : lawMax i = 99 := (if_neg (by omega)).trans (if_neg (by omega)); omega
  · obtain ⟨s5, e5, t5, f5⟩ := c_refuse t4 (x := sk T L q.1) (by omega)
    rw [if_neg y4, if_neg y4, if_pos (show (-1 : Int32) < 0 by decide), t4.2.1, e5, cw_s]
    exact ⟨s5, rfl, ⟨t5, hC.frT (F4.t f5) hab, hB⟩, (F4.t f5).s⟩
end SENTC
/-- all sentences -/
def cAll (T : Nat → Nat) (L : Nat) : Nat → PQ → MS → PQ × MS
  | 0, q, g => (q, g)
  | n + 1, q, g => if L ≤ q.1 then (q, g) else if q.2 = none then cAll T L n (sk T L (cSg T L (cSe T L q g).1).1, (cSg T L (cSe T L q g).1).2) (cSe T L q g).2 else (q, g)
section ALLC
variable {s : St} {a b L : Nat} {T : Nat → Nat} {q : PQ} {g : MS}
theorem c_allLoop (hab : a + 8 < b) : ∀ (k c n : Nat) (t : St) (q : PQ) (g : MS), c + k = 200 → k < n → RS t b a L T (q, g) → ∃ t', L_X2_readInto_16 b a (fun (s6 : St) => some ((gF s6 b 3), s6)) n (nI c) t = some (flI (cAll T L k q g).1.2, t') ∧ RS t' b a L T (cAll T L k q g) ∧ FrS b a t t' := by
  intro k
  induction k with
  | zero =>
    intro c n t q g hc hn h
    obtain ⟨n, rfl⟩ : ∃ j, n = j + 1 := ⟨n - 1, by omega⟩
    refine ⟨t, ?_, h, Fr2.rf⟩
    show B_X2_readInto_16 _ b a _ (nI c) t = _
    unfold B_X2_readInto_16
    rw [if_pos (by rw [li_200]; exact nI_le (by omega) (by omega))]
    show some (gF t b 3, t) = some (flI q.2, t)
    rw [h.1.2.2.1]
  | succ k ih =>
    intro c n t q g hc hn h
    obtain ⟨n, rfl⟩ : ∃ j, n = j + 1 := ⟨n - 1, by omega⟩
    have hL := h.1.2.2.2.2.1
    have hp := h.1.2.2.2.1
    have h2 := h.1.2.1
    have h3 := h.1.2.2.1
    have hf := h.1.2.2.2.2.2.1
    dsimp only at hp h2 h3 hf
    show ∃ t', B_X2_readInto_16 (L_X2_readInto_16 b a (fun (s6 : St) => some ((gF s6 b 3), s6)) n) b a (fun (s6 : St) => some ((gF s6 b 3), s6)) (nI c) t = _ ∧ _
    unfold B_X2_readInto_16 cAll
    rw [if_neg (by rw [li_200]; exact nI_ge (by omega) (by omega)), h.1.1, h2, h3]
    by_cases y : L ≤ q.1
    · rw [if_pos (nI_le y (by omega)), if_pos y]
      exact ⟨t, by show some (gF t b 3, t) = some (flI q.2, t); rw [h3], h, Fr2.rf⟩
    · rw [if_neg (nI_ge (by omega) (by omega)), if_neg y]
      cases hq : q.2 with
      | some f =>
        have := hf f hq
        rw [show flI (some f) = nI f from rfl, if_pos (nI_pos' (by omega)), if_neg (fun w => by cases w)]
        dsimp only
        rw [hq]
        exact ⟨t, by rw [h3, hq], h, Fr2.rf⟩
      | none =>
        rw [show flI none = -1 from rfl, if_neg (by decide), if_pos rfl]
        obtain ⟨s1, e1, r1, f1⟩ := c_sent hab h
        obtain ⟨s2, e2, t2, f2⟩ := c_readSign r1.1
        obtain ⟨s3, e3, t3, f3⟩ := c_skip t2
        obtain ⟨t', e', r', f'⟩ := ih (c + 1) n s3 _ (cSe T L q g).2 (by omega) (by omega) ⟨t3, r1.2.1.frT (f2.t f3) hab, r1.2.2⟩
        rw [e1, cw_s, e2, cw_s, e3, cw_s, nI_1]
        exact ⟨t', e', r', (f1.tr (f2.t f3).s).tr f'⟩
theorem c_readInto (hab : a + 8 < b) (h1 : gF s b 1 = nI L) (hL : L ≤ 200) (h7 : ∀ i, i < L → T i < 256 ∧ gA s (b + 1) i = sbI (T i)) (hC : CM s a 0 g) (hB : BM g) : ∃ s', f_X2_readInto b a s = some (flI (cAll T L 200 (sk T L 0, none) g).1.2, s') ∧ RS s' b a L T (cAll T L 200 (sk T L 0, none) g) ∧ FrS b a s s' := by
  have t2 : TS (pF (pF s b 2 0) b 3 (-1)) b L T (0, none) := ⟨by rw [gF_pF, if_neg (by omega), gF_pF, if_neg (by omega)]; exact h1, by rw [gF_pF, if_neg (by omega), gF_pF, if_pos ⟨rfl, rfl⟩]; rfl, by rw [gF_pF, if_pos ⟨rfl, rfl⟩]; rfl, by show 0 ≤ L; omega, hL, fun f (hf : (none : Option Nat) = some f) => (by cases hf), h7⟩
  have f2 : FrT b s (pF (pF s b 2 0) b 3 (-1)) := f_place.tr (Fr2.pF ⟨rfl, Or.inr rfl⟩)
  obtain ⟨s3, e3, t3, f3⟩ := c_skip t2
  obtain ⟨s4, e4, r4, f4⟩ := c_allLoop (a := a) hab 200 0 FU s3 (sk T L 0, none) g (by omega) (by show 200 < 1000; omega) ⟨t3, hC.frT (f2.t f3) hab, hB⟩
  refine ⟨s4, ?_, r4, (f2.t f3).s.tr f4⟩
  unfold f_X2_readInto
  rw [bn_e, bn_e, e3, cw_s, li_0, e4]
end ALLC
