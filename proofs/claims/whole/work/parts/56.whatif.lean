/-! what would be: whereFor, kindFor, annoyed -/
def wIf (m : MS) (k p n c v : Nat) : Nat := (yearsS 0 (setR m (5 + k) (upN (m.1 (5 + k)) p v)) n).1 3 c
def bestS (f : Nat → Nat) : Nat → Int32 × Int32
  | 0 => (0, -1)
  | i + 1 => if nI (f i) ≤ (bestS f i).2 then bestS f i else (nI i, nI (f i))
def anS (f : Nat → Nat) : Nat → Nat → Int32
  | 0, _ => -3
  | k + 1, i => if 10 ≤ f i then nI i else anS f k (i + 1)
section WHATIF
variable {s : St} {b d mu : Nat} {m : MS}
theorem c_short (a : Int32) : f_X3_isShortTime a = some (bI (decide ((1 : Int) ≤ a.toInt ∧ a.toInt ≤ 20))) := by
  unfold f_X3_isShortTime
  have e0 : (a < (1 : Int32)) ↔ a.toInt < 1 := by rw [Int32.lt_iff_toInt_lt]; rfl
  have e1 : ((20 : Int32) < a) ↔ 20 < a.toInt := by rw [Int32.lt_iff_toInt_lt]; rfl
  simp only [e0, e1]
  by_cases h1 : a.toInt < 1
  · rw [if_pos h1, decide_eq_false (by omega)]; rfl
  · rw [if_neg h1]
    by_cases h2 : 20 < a.toInt
    · rw [if_pos h2, decide_eq_false (by omega)]; rfl
    · rw [if_neg h2, decide_eq_true (by omega)]; rfl
theorem r_short (a : Int32) : f_X4_in (a).toInt64 (1 : Int64) (20 : Int64) = some (bI (decide ((1 : Int) ≤ a.toInt ∧ a.toInt ≤ 20))) := r_inLo a 1 20
theorem short_of {a : Int32} (h : decide ((1 : Int) ≤ a.toInt ∧ a.toInt ≤ 20) = true) : ∃ n, n ≤ 20 ∧ a = nI n := by
  obtain ⟨h1, h2⟩ := of_decide_eq_true h
  obtain ⟨n, hn⟩ : ∃ n : Nat, a.toInt = n := ⟨a.toInt.toNat, by omega⟩
  exact ⟨n, by omega, nI_back hn (by omega)⟩
theorem r_isAsk (h : MM s d mu m) (h8 : m.1 0 0 ≤ 8) (a1 a2 a3 : Int32) : f_X4_isAsk d a1 a2 a3 s = some (bI (wp a1 (m.1 0 0) && (wp a2 32 && decide ((1 : Int) ≤ a3.toInt ∧ a3.toInt ≤ 20)))) := by
  unfold f_X4_isAsk
  rw [r_isPerson h h8, cp_s, r_isCell, cp_s, r_short, cp_s]
  cases wp a1 (m.1 0 0)
  · rfl
  · rw [if_neg bt_ne]
    cases wp a2 32
    · rfl
    · rw [if_neg bt_ne]
      cases decide ((1 : Int) ≤ a3.toInt ∧ a3.toInt ≤ 20)
      · rfl
      · rfl
theorem c_try (hC : CM s (b + 1) 0 m) (hB : BM m) {j k p v n : Nat} (hk : k < 4) (hj : j = 5 + k) (hp : p < m.1 0 0) (hv : v ≤ mostP k) (hn : n ≤ 60) : ∃ s3, (∀ {α : Type} (F : St → Option α), (cw (f_X1_become (b + 10) (b + 1) s) fun s10 => gd (ib (nI p) 8) (bn (pA s10 ((b + 10) + j) (ix (nI p)) (nI v)) fun s12 => cw (f_X1_passYears (b + 10) (nI n) s12) F)) = F s3) ∧ Fr (wM (b + 10)) s s3 ∧ CM s3 (b + 10) 0 (yearsS 0 (setR m (5 + k) (upN (m.1 (5 + k)) p v)) n) := by
  subst hj
  have h8 := hB.1
  obtain ⟨s1, e1, f1, g1⟩ := c_become hC h8 (b := b + 10) (by omega)
  have g2 := g1.pP k hk (p := p) (v := v)
  obtain ⟨s3, e3, f3, g3⟩ := c_passYears g2 (hB.setP k hk hv) (by omega) hn
  refine ⟨s3, fun F => ?_, (f1.tr (Fr.pA (by unfold wM; omega))).tr f3, g3⟩
  rw [e1, cw_s, gd_n (show p < 8 by omega) (by omega), ix_n (by omega), bn_e, e3, cw_s]
theorem r_try (hM : MM s d 0 m) (hA : AM s d m) (hB : BM m) {k p v n c : Nat} (hk : k < 4) (hp : p < m.1 0 0) (hv : v ≤ mostP k) (hn : n ≤ 60) (hc : c < 32) : ∃ s', f_X4_levelWith d (nI c) (nI n) (nI (71 + 4 * p + k)) (nI v) s = some (nI (wIf m k p n c v), s') ∧ Fr (wR d) s s' ∧ MM s' d 0 m ∧ AM s' d m := by
  have h8 := hB.1
  have m1 := hM.pP k hk (p := p) (v := v)
  rw [show 71 + k + 4 * p = 71 + 4 * p + k by omega] at m1
  have fA : Fr (fun x => x = d + 1) s (pA s (d + 1) (71 + 4 * p + k) (nI v)) := Fr.pA rfl
  obtain ⟨t2, e4, f4, g4⟩ := r_yearsGo m1 (hB.setP k hk hv) (by omega) hn
  have a2 := (hA.fr1 fA).fr f4
  obtain ⟨t3, e5, f5, g5⟩ := r_back a2 h8 g4.2
  refine ⟨t3, ?_, ((fA.wk (fun k q => Or.inl q)).tr f4).tr (f5.wk (fun k q => Or.inl q)), g5, a2.fr1 f5⟩
  unfold f_X4_levelWith
  rw [bn_e, if_neg (nI_pos (by omega)), gd_n (show 71 + 4 * p + k < 103 by omega) (by omega), ix_n (by omega), bn_e]
  dsimp only
  rw [e4, cw_s, show (39 : Int32) + nI c = nI (39 + c) from nI_add 39 c, gd_n (show 39 + c < 103 by omega) (by omega), ix_n (by omega), bn_e, e5, cw_s, (g4.1.2.2.2.2.1 c hc).2]
  rfl
theorem wIf_le (hB : BM m) {k p n c v : Nat} (hk : k < 4) (hv : v ≤ mostP k) (hc : c < 32) : wIf m k p n c v ≤ 99 := (((hB.setP k hk hv).years 0 n).2.2.2.2.1 c hc).2
theorem r_mostBy (hM : MM s d 0 m) (hB : BM m) {k p n c N : Nat} (hk : k < 4) (hp : p < m.1 0 0) (hN : N ≤ mostP k + 1) (hN2 : N ≤ 100) (hn : n ≤ 60) (hc : c < 32) : ∃ s', f_X4_mostBy d (nI (71 + 4 * p + k)) (nI N) (nI c) (nI n) s = some ((bestS (wIf m k p n c) N).1, s') ∧ Fr (wQ d) s s' ∧ MM s' d 0 m := by
  have h8 := hB.1
  obtain ⟨t1, e3, f3, g3, a3⟩ := r_aside hM h8
  have key := loopR (fun r i (q : Int32 × Int32 × St) => L_X4_mostBy_13 d (nI (71 + 4 * p + k)) (nI N) (nI c) (nI n) (fun (e6 : Int32) (s7 : St) => some (e6, s7)) r q.1 q.2.1 i q.2.2) (fun q => some (q.1, q.2.2)) N (fun i q => q.1 = (bestS (wIf m k p n c) i).1 ∧ q.2.1 = (bestS (wIf m k p n c) i).2 ∧ Fr (wR d) t1 q.2.2 ∧ MM q.2.2 d 0 m ∧ AM q.2.2 d m) (fun r q hq => by
    show B_X4_mostBy_13 _ d (nI (71 + 4 * p + k)) (nI N) (nI c) (nI n) _ q.1 q.2.1 (nI N) q.2.2 = _
    unfold B_X4_mostBy_13
    rw [if_pos (nI_le (Nat.le_refl _) (by omega))]) (fun r i q hi ⟨q1, q2, q3, q4, q5⟩ => by
    obtain ⟨z, cnt, t⟩ := q
    dsimp only at q1 q2 q3 q4 q5
    subst q1 q2
    show ∃ s' : Int32 × Int32 × St, B_X4_mostBy_13 (L_X4_mostBy_13 d (nI (71 + 4 * p + k)) (nI N) (nI c) (nI n) (fun (e6 : Int32) (s7 : St) => some (e6, s7)) r) d (nI (71 + 4 * p + k)) (nI N) (nI c) (nI n) _ _ _ (nI i) t = L_X4_mostBy_13 d (nI (71 + 4 * p + k)) (nI N) (nI c) (nI n) (fun (e6 : Int32) (s7 : St) => some (e6, s7)) r s'.1 s'.2.1 (nI (i + 1)) s'.2.2 ∧ _
    obtain ⟨t2, e2, f2, g2, a2⟩ := r_try q4 q5 hB hk hp (v := i) (by omega) hn hc
    unfold B_X4_mostBy_13
    rw [if_neg (nI_ge hi (by omega)), e2, cb_s, bn_e, nI_1]
    refine ⟨((bestS (wIf m k p n c) (i + 1)).1, (bestS (wIf m k p n c) (i + 1)).2, t2), ?_, rfl, rfl, q3.tr f2, g2, a2⟩
    dsimp only
    rw [show bestS (wIf m k p n c) (i + 1) = if nI (wIf m k p n c i) ≤ (bestS (wIf m k p n c) i).2 then bestS (wIf m k p n c) i else (nI i, nI (wIf m k p n c i)) from rfl]
    split <;> rfl)
  obtain ⟨q', e6, q1', q2', q3', q4', q5'⟩ := key N 0 (0, -1, t1) FU (by omega) (by show N < 1000; omega) ⟨rfl, rfl, Fr.rf, g3, a3⟩
  dsimp only at e6
  rw [nI_0] at e6
  refine ⟨q'.2.2, ?_, (f3.wk (fun k q => Or.inr (Or.inl q))).tr (q3'.wk (fun k q => by unfold wR at q; omega)), q4'⟩
  unfold f_X4_mostBy
  rw [e3, cw_s, e6, q1']
theorem p_whereFor (hd : d = b + 53) (hC : CM s (b + 1) 0 m) (hM : MM s d 0 m) (hB : BM m) (a1 a2 a3 : Int32) : PO b d s (f_X3_whereFor b a1 a2 a3) (f_X4_whereFor d a1 a2 a3) := by
  have h8 := hB.1
  have c1 := f_X3_whereFor.eq_1 b a1 a2 a3 s
  rw [c_isPerson hC h8, cp_s, c_isCell, cp_s, c_short, cp_s] at c1
  have r1 : ∀ t, MM t d 0 m → f_X4_whereFor d a1 a2 a3 t = (if bI (wp a1 (m.1 0 0) && (wp a2 32 && decide ((1 : Int) ≤ a3.toInt ∧ a3.toInt ≤ 20))) = 0 then some ((-1 : Int32), t) else cb (f_X4_mostBy d (((71 : Int32) + ((4 : Int32) * a1)) + (3 : Int32)) (32 : Int32) a2 a3 t) fun x3 s2 => some (x3, s2)) := fun t ht => by unfold f_X4_whereFor; rw [r_isAsk ht h8, cp_s]
  cases h : wp a1 (m.1 0 0)
  · rw [h] at c1; exact PO.no hC hM hB c1 (by rw [r1 s hM, h]; rfl)
  cases h2 : wp a2 32
  · rw [h, h2] at c1; exact PO.no hC hM hB c1 (by rw [r1 s hM, h, h2]; rfl)
  cases h3 : decide ((1 : Int) ≤ a3.toInt ∧ a3.toInt ≤ 20)
  · rw [h, h2, h3] at c1; exact PO.no hC hM hB c1 (by rw [r1 s hM, h, h2, h3]; rfl)
  obtain ⟨p, hp, rfl⟩ := wp_of h (by omega)
  obtain ⟨c, hc, rfl⟩ := wp_of h2 (by omega)
  obtain ⟨n, hn, rfl⟩ := short_of h3
  rw [h, h2, h3, if_neg bt_ne, if_neg bt_ne, if_neg bt_ne] at c1
  have key := loopR (fun r i (q : Int32 × Int32 × St) => L_X3_whereFor_33 b (nI p) (nI c) (nI n) (fun (e8 : Int32) (s9 : St) => some (e8, s9)) r q.1 q.2.1 i q.2.2) (fun q => some (q.1, q.2.2)) 32 (fun i q => q.1 = (bestS (wIf m 3 p n c) i).1 ∧ q.2.1 = (bestS (wIf m 3 p n c) i).2 ∧ Fr (wM (b + 10)) s q.2.2) (fun r q hq => by
    show B_X3_whereFor_33 _ b (nI p) (nI c) (nI n) _ q.1 q.2.1 (nI 32) q.2.2 = _
    unfold B_X3_whereFor_33
    exact if_pos (nI_le (Nat.le_refl 32) (by omega))) (fun r i q hi ⟨q1, q2, q3⟩ => by
    obtain ⟨z, cnt, t⟩ := q
    dsimp only at q1 q2 q3
    subst q1 q2
    show ∃ s' : Int32 × Int32 × St, B_X3_whereFor_33 (L_X3_whereFor_33 b (nI p) (nI c) (nI n) (fun (e8 : Int32) (s9 : St) => some (e8, s9)) r) b (nI p) (nI c) (nI n) _ _ _ (nI i) t = L_X3_whereFor_33 b (nI p) (nI c) (nI n) (fun (e8 : Int32) (s9 : St) => some (e8, s9)) r s'.1 s'.2.1 (nI (i + 1)) s'.2.2 ∧ _
    have hCt : CM t (b + 1) 0 m := hC.fr q3 (fun k q1 q2 => by unfold wM; omega)
    obtain ⟨t2, e2, f2, g2⟩ := c_try hCt hB (k := 3) (j := 8) (v := i) (by omega) rfl hp (by show i ≤ 31; omega) (show n ≤ 60 by omega)
    have e3 : gA t2 (b + 10 + 3) c = nI (wIf m 3 p n c i) := (g2.2.2.2.2.2.1 c hc).2.1
    unfold B_X3_whereFor_33
    rw [if_neg (by rw [li_32]; exact nI_ge hi (by omega)), e2, gd_n hc (by omega), ix_n (by omega), e3, bn_e, nI_1]
    refine ⟨((bestS (wIf m 3 p n c) (i + 1)).1, (bestS (wIf m 3 p n c) (i + 1)).2, t2), ?_, rfl, rfl, q3.tr f2⟩
    dsimp only
    rw [show bestS (wIf m 3 p n c) (i + 1) = if nI (wIf m 3 p n c i) ≤ (bestS (wIf m 3 p n c) i).2 then bestS (wIf m 3 p n c) i else (nI i, nI (wIf m 3 p n c i)) from rfl]
    split
    · rfl
    · rw [gd_n hc (by omega), bn_e])
  obtain ⟨q', e6, q1', q2', q3'⟩ := key 32 0 (0, -1, s) FU (by omega) (by show 32 < 1000; omega) ⟨rfl, rfl, Fr.rf⟩
  dsimp only at e6
  rw [nI_0] at e6
  rw [e6, q1'] at c1
  refine PO.mk hd hM hB c1 (q3'.wk (fun k q => by unfold wM at q; unfold wC; omega)) (hC.fr q3' (fun k q1 q2 => by unfold wM; omega)) (fun hM1 => ?_)
  obtain ⟨t1, e7, f7, g7⟩ := r_mostBy hM1 hB (k := 3) (N := 32) (by omega) hp (by show 32 ≤ 32; omega) (by omega) (show n ≤ 60 by omega) hc
  refine ⟨t1, ?_, f7, g7⟩
  rw [r1 _ hM1, h, h2, h3]
  rw [show ((71 : Int32) + (4 : Int32) * nI p) + (3 : Int32) = nI (71 + 4 * p + 3) from ix71 p 3]
  rw [if_neg (show ¬ bI (true && (true && true)) = 0 by decide), li_32, e7, cb_s]
theorem p_kindFor (hd : d = b + 53) (hC : CM s (b + 1) 0 m) (hM : MM s d 0 m) (hB : BM m) (a1 a2 a3 : Int32) : PO b d s (f_X3_kindFor b a1 a2 a3) (f_X4_kindFor d a1 a2 a3) := by
  have h8 := hB.1
  have c1 := f_X3_kindFor.eq_1 b a1 a2 a3 s
  rw [c_isPerson hC h8, cp_s, c_isCell, cp_s, c_short, cp_s] at c1
  have r1 : ∀ t, MM t d 0 m → f_X4_kindFor d a1 a2 a3 t = (if bI (wp a1 (m.1 0 0) && (wp a2 32 && decide ((1 : Int) ≤ a3.toInt ∧ a3.toInt ≤ 20))) = 0 then some ((-1 : Int32), t) else cb (f_X4_mostBy d (((71 : Int32) + ((4 : Int32) * a1)) + (0 : Int32)) (6 : Int32) a2 a3 t) fun x3 s2 => some (x3, s2)) := fun t ht => by unfold f_X4_kindFor; rw [r_isAsk ht h8, cp_s]
  cases h : wp a1 (m.1 0 0)
  · rw [h] at c1; exact PO.no hC hM hB c1 (by rw [r1 s hM, h]; rfl)
  cases h2 : wp a2 32
  · rw [h, h2] at c1; exact PO.no hC hM hB c1 (by rw [r1 s hM, h, h2]; rfl)
  cases h3 : decide ((1 : Int) ≤ a3.toInt ∧ a3.toInt ≤ 20)
  · rw [h, h2, h3] at c1; exact PO.no hC hM hB c1 (by rw [r1 s hM, h, h2, h3]; rfl)
  obtain ⟨p, hp, rfl⟩ := wp_of h (by omega)
  obtain ⟨c, hc, rfl⟩ := wp_of h2 (by omega)
  obtain ⟨n, hn, rfl⟩ := short_of h3
  rw [h, h2, h3, if_neg bt_ne, if_neg bt_ne, if_neg bt_ne] at c1
  have key := loopR (fun r i (q : Int32 × Int32 × St) => L_X3_kindFor_33 b (nI p) (nI c) (nI n) (fun (e8 : Int32) (s9 : St) => some (e8, s9)) r q.1 q.2.1 i q.2.2) (fun q => some (q.1, q.2.2)) 6 (fun i q => q.1 = (bestS (wIf m 0 p n c) i).1 ∧ q.2.1 = (bestS (wIf m 0 p n c) i).2 ∧ Fr (wM (b + 10)) s q.2.2) (fun r q hq => by
    show B_X3_kindFor_33 _ b (nI p) (nI c) (nI n) _ q.1 q.2.1 (nI 6) q.2.2 = _
    unfold B_X3_kindFor_33
    exact if_pos (nI_le (Nat.le_refl 6) (by omega))) (fun r i q hi ⟨q1, q2, q3⟩ => by
    obtain ⟨z, cnt, t⟩ := q
    dsimp only at q1 q2 q3
    subst q1 q2
    show ∃ s' : Int32 × Int32 × St, B_X3_kindFor_33 (L_X3_kindFor_33 b (nI p) (nI c) (nI n) (fun (e8 : Int32) (s9 : St) => some (e8, s9)) r) b (nI p) (nI c) (nI n) _ _ _ (nI i) t = L_X3_kindFor_33 b (nI p) (nI c) (nI n) (fun (e8 : Int32) (s9 : St) => some (e8, s9)) r s'.1 s'.2.1 (nI (i + 1)) s'.2.2 ∧ _
    have hCt : CM t (b + 1) 0 m := hC.fr q3 (fun k q1 q2 => by unfold wM; omega)
    obtain ⟨t2, e2, f2, g2⟩ := c_try hCt hB (k := 0) (j := 5) (v := i) (by omega) rfl hp (by show i ≤ 5; omega) (show n ≤ 60 by omega)
    have e3 : gA t2 (b + 10 + 3) c = nI (wIf m 0 p n c i) := (g2.2.2.2.2.2.1 c hc).2.1
    unfold B_X3_kindFor_33
    rw [if_neg (by rw [li_6]; exact nI_ge hi (by omega)), e2, gd_n hc (by omega), ix_n (by omega), e3, bn_e, nI_1]
    refine ⟨((bestS (wIf m 0 p n c) (i + 1)).1, (bestS (wIf m 0 p n c) (i + 1)).2, t2), ?_, rfl, rfl, q3.tr f2⟩
    dsimp only
    rw [show bestS (wIf m 0 p n c) (i + 1) = if nI (wIf m 0 p n c i) ≤ (bestS (wIf m 0 p n c) i).2 then bestS (wIf m 0 p n c) i else (nI i, nI (wIf m 0 p n c i)) from rfl]
    split
    · rfl
    · rw [gd_n hc (by omega), bn_e])
  obtain ⟨q', e6, q1', q2', q3'⟩ := key 6 0 (0, -1, s) FU (by omega) (by show 6 < 1000; omega) ⟨rfl, rfl, Fr.rf⟩
  dsimp only at e6
  rw [nI_0] at e6
  rw [e6, q1'] at c1
  refine PO.mk hd hM hB c1 (q3'.wk (fun k q => by unfold wM at q; unfold wC; omega)) (hC.fr q3' (fun k q1 q2 => by unfold wM; omega)) (fun hM1 => ?_)
  obtain ⟨t1, e7, f7, g7⟩ := r_mostBy hM1 hB (k := 0) (N := 6) (by omega) hp (by show 6 ≤ 6; omega) (by omega) (show n ≤ 60 by omega) hc
  refine ⟨t1, ?_, f7, g7⟩
  rw [r1 _ hM1, h, h2, h3]
  rw [show ((71 : Int32) + (4 : Int32) * nI p) + (0 : Int32) = nI (71 + 4 * p + 0) from ix71 p 0]
  rw [if_neg (show ¬ bI (true && (true && true)) = 0 by decide), li_6, e7, cb_s]
theorem p_annoyed (hd : d = b + 53) (hC : CM s (b + 1) 0 m) (hM : MM s d 0 m) (hB : BM m) (a1 a2 a3 : Int32) : PO b d s (f_X3_annoyed b a1 a2 a3) (f_X4_annoyed d a1 a2 a3) := by
  have h8 := hB.1
  have c1 := f_X3_annoyed.eq_1 b a1 a2 a3 s
  rw [c_isPerson hC h8, cp_s, c_isCell, cp_s, c_short, cp_s] at c1
  have r1 : ∀ t, MM t d 0 m → f_X4_annoyed d a1 a2 a3 t = (if bI (wp a1 (m.1 0 0) && (wp a2 32 && decide ((1 : Int) ≤ a3.toInt ∧ a3.toInt ≤ 20))) = 0 then some ((-1 : Int32), t) else cw (f_X4_keepAside d t) fun s2 => L_X4_annoyed_19 d a1 a2 a3 FU (0 : Int32) s2) := fun t ht => by unfold f_X4_annoyed; rw [r_isAsk ht h8, cp_s]
  cases h : wp a1 (m.1 0 0)
  · rw [h] at c1; exact PO.no hC hM hB c1 (by rw [r1 s hM, h]; rfl)
  cases h2 : wp a2 32
  · rw [h, h2] at c1; exact PO.no hC hM hB c1 (by rw [r1 s hM, h, h2]; rfl)
  cases h3 : decide ((1 : Int) ≤ a3.toInt ∧ a3.toInt ≤ 20)
  · rw [h, h2, h3] at c1; exact PO.no hC hM hB c1 (by rw [r1 s hM, h, h2, h3]; rfl)
  obtain ⟨p, hp, rfl⟩ := wp_of h (by omega)
  obtain ⟨c, hc, rfl⟩ := wp_of h2 (by omega)
  obtain ⟨n, hn, rfl⟩ := short_of h3
  rw [h, h2, h3, if_neg bt_ne, if_neg bt_ne, if_neg bt_ne] at c1
  have keyC : ∀ (k i r : Nat) (t : St), i + k = 100 → k < r → Fr (wM (b + 10)) s t → ∃ t', L_X3_annoyed_27 b (nI p) (nI c) (nI n) r (nI i) t = some (anS (wIf m 2 p n c) k i, t') ∧ Fr (wM (b + 10)) s t' := by
    intro k
    induction k with
    | zero =>
      intro i r t hi hr hF
      obtain ⟨r, rfl⟩ : ∃ j, r = j + 1 := ⟨r - 1, by omega⟩
      refine ⟨t, ?_, hF⟩
      show B_X3_annoyed_27 _ b (nI p) (nI c) (nI n) (nI i) t = _
      unfold B_X3_annoyed_27
      rw [if_pos (by rw [li_99]; exact nI_lt (by omega) (by omega))]
      rfl
    | succ k ih =>
      intro i r t hi hr hF
      obtain ⟨r, rfl⟩ : ∃ j, r = j + 1 := ⟨r - 1, by omega⟩
      have hCt : CM t (b + 1) 0 m := hC.fr hF (fun k q1 q2 => by unfold wM; omega)
      obtain ⟨t2, e2, f2, g2⟩ := c_try hCt hB (k := 2) (j := 7) (v := i) (by omega) rfl hp (by show i ≤ 99; omega) (show n ≤ 60 by omega)
      have bb := (hB.setP 2 (by omega) (p := p) (v := i) (by show i ≤ 99; omega)).years 0 n
      have eW : f_X1_isWet (b + 10) (nI c) t2 = some (bI (decide (10 ≤ wIf m 2 p n c i))) := c_isWet g2 bb hc
      show ∃ t', B_X3_annoyed_27 (L_X3_annoyed_27 b (nI p) (nI c) (nI n) r) b (nI p) (nI c) (nI n) (nI i) t = some ((if 10 ≤ wIf m 2 p n c i then nI i else anS (wIf m 2 p n c) k (i + 1)), t') ∧ _
      unfold B_X3_annoyed_27
      rw [if_neg (by rw [li_99]; exact nI_nlt (by omega) (by omega)), e2, eW, cp_s, nI_1]
      by_cases q : 10 ≤ wIf m 2 p n c i
      · rw [decide_eq_true q, if_neg bt_ne, if_pos q]
        exact ⟨t2, rfl, hF.tr f2⟩
      · rw [decide_eq_false q, if_pos bf_eq, if_neg q]
        exact ih (i + 1) r t2 (by omega) (by omega) (hF.tr f2)
  obtain ⟨s2, e2, f2⟩ := keyC 100 0 FU s (by omega) (by show 100 < 1000; omega) Fr.rf
  rw [nI_0] at e2
  rw [e2] at c1
  refine PO.mk hd hM hB c1 (f2.wk (fun k q => by unfold wM at q; unfold wC; omega)) (hC.fr f2 (fun k q1 q2 => by unfold wM; omega)) (fun hM1 => ?_)
  obtain ⟨t1, e3, f3, g3, a3⟩ := r_aside hM1 h8
  have keyR : ∀ (k i r : Nat) (t : St), i + k = 100 → k < r → MM t d 0 m → AM t d m → ∃ t', L_X4_annoyed_19 d (nI p) (nI c) (nI n) r (nI i) t = some (anS (wIf m 2 p n c) k i, t') ∧ Fr (wR d) t t' ∧ MM t' d 0 m := by
    intro k
    induction k with
    | zero =>
      intro i r t hi hr hMt hA
      obtain ⟨r, rfl⟩ : ∃ j, r = j + 1 := ⟨r - 1, by omega⟩
      refine ⟨t, ?_, Fr.rf, hMt⟩
      show B_X4_annoyed_19 _ d (nI p) (nI c) (nI n) (nI i) t = _
      unfold B_X4_annoyed_19
      rw [if_pos (by rw [li_99]; exact nI_lt (by omega) (by omega))]
      rfl
    | succ k ih =>
      intro i r t hi hr hMt hA
      obtain ⟨r, rfl⟩ : ∃ j, r = j + 1 := ⟨r - 1, by omega⟩
      obtain ⟨t2, e4, f4, g4, a4⟩ := r_try hMt hA hB (k := 2) (v := i) (by omega) hp (by show i ≤ 99; omega) (show n ≤ 60 by omega) hc
      have hw := wIf_le hB (k := 2) (p := p) (n := n) (c := c) (v := i) (by omega) (by show i ≤ 99; omega) hc
      show ∃ t', B_X4_annoyed_19 (L_X4_annoyed_19 d (nI p) (nI c) (nI n) r) d (nI p) (nI c) (nI n) (nI i) t = some ((if 10 ≤ wIf m 2 p n c i then nI i else anS (wIf m 2 p n c) k (i + 1)), t') ∧ _
      unfold B_X4_annoyed_19
      rw [if_neg (by rw [li_99]; exact nI_nlt (by omega) (by omega)), show ((71 : Int32) + (4 : Int32) * nI p) + (2 : Int32) = nI (71 + 4 * p + 2) from ix71 p 2, e4, cb_s, nI_1, li_10]
      by_cases q : 10 ≤ wIf m 2 p n c i
      · rw [if_neg (nI_nlt q (by omega)), if_pos q]
        exact ⟨t2, rfl, f4, g4⟩
      · rw [if_pos (nI_lt (by omega) (by omega)), if_neg q]
        obtain ⟨t', e', f', g'⟩ := ih (i + 1) r t2 (by omega) (by omega) g4 a4
        exact ⟨t', e', f4.tr f', g'⟩
  obtain ⟨t2, e4, f4, g4⟩ := keyR 100 0 FU t1 (by omega) (by show 100 < 1000; omega) g3 a3
  rw [nI_0] at e4
  refine ⟨t2, ?_, (f3.wk (fun k q => Or.inr (Or.inl q))).tr (f4.wk (fun k q => by unfold wR at q; omega)), g4⟩
  rw [r1 _ hM1, h, h2, h3, if_neg (show ¬ bI (true && (true && true)) = 0 by decide), e3, cw_s, e4]
end WHATIF
