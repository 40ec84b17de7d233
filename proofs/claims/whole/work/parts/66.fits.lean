/-! fits -/
def tellB (x : Int64) (w : Nat) : Bool := decide (x = -1 ∨ x = (nI w).toInt64)
def allN (T : Nat → Bool) : Nat → Nat → Bool
  | 0, _ => true
  | k + 1, i => if T i = true then allN T k (i + 1) else false
def cntD (P : Nat → Bool) : Nat → Nat → Nat
  | 0, _ => 0
  | k + 1, a => (if P a = true then 1 else 0) + cntD P k (a + 1)
theorem cntD_le (P : Nat → Bool) : ∀ k a, cntD P k a ≤ k
  | 0, _ => Nat.le_refl 0
  | k + 1, a => by
    have := cntD_le P k (a + 1)
    unfold cntD
    split <;> omega
theorem cntD_snoc (P : Nat → Bool) : ∀ k a, cntD P (k + 1) a = cntD P k a + (if P (a + k) = true then 1 else 0)
  | 0, a => by
    show (if P a = true then 1 else 0) + 0 = 0 + (if P a = true then 1 else 0)
    omega
  | k + 1, a => by
    have h := cntD_snoc P k (a + 1)
    rw [show a + 1 + k = a + (k + 1) by omega] at h
    show (if P a = true then 1 else 0) + cntD P (k + 1) (a + 1) = ((if P a = true then 1 else 0) + cntD P k (a + 1)) + _
    omega
theorem fstN_snoc (P : Nat → Bool) : ∀ k a, fstN P (k + 1) a = if cntD P k a = 0 then (if P (a + k) = true then nI (a + k) else -3) else fstN P k a
  | 0, a => rfl
  | k + 1, a => by
    have h := fstN_snoc P k (a + 1)
    rw [show a + 1 + k = a + (k + 1) by omega] at h
    show (if P a = true then nI a else fstN P (k + 1) (a + 1)) = if (if P a = true then 1 else 0) + cntD P k (a + 1) = 0 then (if P (a + (k + 1)) = true then nI (a + (k + 1)) else -3) else (if P a = true then nI a else fstN P k (a + 1))
    cases q : P a
    · rw [if_neg Bool.false_ne_true, if_neg Bool.false_ne_true, if_neg Bool.false_ne_true, Nat.zero_add, h]
    · rw [if_pos rfl, if_pos rfl, if_neg (by omega), if_pos rfl]
theorem fst_none (P : Nat → Bool) : ∀ k a, cntD P k a = 0 → fstN P k a = -3
  | 0, _, _ => rfl
  | k + 1, a, h => by
    have h' : (if P a = true then 1 else 0) + cntD P k (a + 1) = 0 := h
    show (if P a = true then nI a else fstN P k (a + 1)) = -3
    cases q : P a
    · rw [if_neg Bool.false_ne_true]; exact fst_none P k (a + 1) (by omega)
    · rw [q, if_pos (rfl : true = true)] at h'; omega
def fitT (m : MS) (c : Nat) (f : Nat → Int64) (i : Nat) : Bool := tellB (f i) ((yearsS 0 m (i + 1)).1 3 c)
/-- does v fit -/
def fitV (m : MS) (p c : Nat) (f : Nat → Int64) (z v : Nat) : Bool := allN (fitT (setR m (5 + 2) (upN (m.1 (5 + 2)) p v)) c f) z 0
section FITS
variable {s : St} {b d : Nat} {m : MS}
theorem c_fitLoop (hB : BM m) {c k z : Nat} (f : Nat → Int64) (hc : c < 32) (hk : k < 4) (hz : z ≤ 40) :
    ∀ (j i n : Nat) (t : St), i + j = z → j < n → gA t (b + 42) k = nI z → (∀ x, x < 40 → gL t ((b + 44) + k) x = f x) → CM t (b + 10) 0 (yearsS 0 m i) → ∃ t', L_X3_fitsWith_24 b (nI c) (nI k) n (nI i) t = some (bI (allN (fitT m c f) j i), t') ∧ Fr (wM (b + 10)) t t' := by
  intro j
  induction j with
  | zero =>
    intro i n t hi hn h1 h2 h3
    obtain ⟨n, rfl⟩ : ∃ j, n = j + 1 := ⟨n - 1, by omega⟩
    refine ⟨t, ?_, Fr.rf⟩
    show B_X3_fitsWith_24 _ b (nI c) (nI k) (nI i) t = _
    unfold B_X3_fitsWith_24
    rw [gd_n hk (by omega), ix_n (by omega), h1, if_pos (nI_le (by omega) (by omega))]
    rfl
  | succ j ih =>
    intro i n t hi hn h1 h2 h3
    obtain ⟨n, rfl⟩ : ∃ j, n = j + 1 := ⟨n - 1, by omega⟩
    obtain ⟨t1, e, fr, g⟩ := c_passYear h3 (hB.years 0 i) (by omega)
    have g1 : gA t1 (b + 42) k = nI z := ((fr (b + 42) (by unfold wM; omega)).2.1 k).trans h1
    have g2 : ∀ x, x < 40 → gL t1 ((b + 44) + k) x = f x := fun x hx => ((fr ((b + 44) + k) (by unfold wM; omega)).2.2 x).trans (h2 x hx)
    have e3 : gA t1 (b + 10 + 3) c = nI ((yearsS 0 m (i + 1)).1 3 c) := (g.2.2.2.2.2.1 c hc).2.1
    show ∃ t', B_X3_fitsWith_24 (L_X3_fitsWith_24 b (nI c) (nI k) n) b (nI c) (nI k) (nI i) t = some (bI (if fitT m c f i = true then allN (fitT m c f) j (i + 1) else false), t') ∧ _
    unfold B_X3_fitsWith_24
    rw [gd_n hk (by omega), ix_n (n := k) (by omega), h1, if_neg (nI_ge (by omega) (by omega)), e, cw_s]
    rw [gd_n hk (by omega), gd_n (show i < 40 by omega) (by omega), ix_n (n := i) (by omega), bn_e, g2 i (by omega), gd_n hc (by omega), ix_n (n := c) (by omega), e3, nI_1]
    simp only [lg_cmp_eq]
    obtain ⟨t', e', f'⟩ := ih (i + 1) n t1 (by omega) (by omega) g1 g2 g
    by_cases q : f i = -1
    · rw [if_pos q, if_pos (show fitT m c f i = true from decide_eq_true (Or.inl q))]
      exact ⟨t', e', fr.tr f'⟩
    · rw [if_neg q]
      by_cases q2 : f i = (nI ((yearsS 0 m (i + 1)).1 3 c)).toInt64
      · rw [if_pos q2, if_pos (show fitT m c f i = true from decide_eq_true (Or.inr q2))]
        exact ⟨t', e', fr.tr f'⟩
      · rw [if_neg q2, if_neg (show ¬ fitT m c f i = true from fun w => (of_decide_eq_true w).elim q q2)]
        exact ⟨t1, rfl, fr⟩
theorem c_fitsWith (hC : CM s (b + 1) 0 m) (hB : BM m) {p c k z v : Nat} (f : Nat → Int64) (hp : p < m.1 0 0) (hc : c < 32) (hk : k < 4) (hz : z ≤ 40) (hv : v ≤ 99) (h1 : gA s (b + 42) k = nI z) (h2 : ∀ x, x < 40 → gL s ((b + 44) + k) x = f x) :
    ∃ s', f_X3_fitsWith b (nI v) (nI p) (nI c) (nI k) s = some (bI (fitV m p c f z v), s') ∧ Fr (wM (b + 10)) s s' := by
  have h8 := hB.1
  obtain ⟨s1, e1, f1, g1⟩ := c_become hC h8 (b := b + 10) (by omega)
  have g2 := g1.pP 2 (by omega) (p := p) (v := v)
  have fA : Fr (wM (b + 10)) s1 (pA s1 (b + 10 + 7) p (nI v)) := Fr.pA (by unfold wM; omega)
  obtain ⟨s3, e3, f3⟩ := c_fitLoop (b := b) (hB.setP 2 (by omega) (p := p) (v := v) hv) f hc hk hz z 0 FU (pA s1 (b + 10 + 7) p (nI v)) (by omega) (by show z < 1000; omega) (((f1.tr fA) (b + 42) (by unfold wM; omega)).2.1 k |>.trans h1) (fun x hx => (((f1.tr fA) ((b + 44) + k) (by unfold wM; omega)).2.2 x).trans (h2 x hx)) g2
  refine ⟨s3, ?_, (f1.tr fA).tr f3⟩
  unfold f_X3_fitsWith
  rw [e1, cw_s, gd_n (show p < 8 by omega) (by omega), ix_n (by omega), bn_e, li_0]
  exact e3
theorem r_toldLoop (hB : BM m) {c k z : Nat} (f : Nat → Int64) (hc : c < 32) (hk : k < 4) (hz : z ≤ 40) (K : Int32 → St → Option (Int32 × St)) :
    ∀ (j i n : Nat) (t : St), i + j = z → j + 1 < n → gA t (d + 9) k = nI z → (∀ x, x < 40 → gL t (d + 10) (40 * k + x) = f x) → MM t d 0 (yearsS 0 m i) → ∃ t', L_X4_isTold_14 d (nI k) (nI c) K n (1 : Int32) (nI i) t = K (bI (allN (fitT m c f) j i)) t' ∧ Fr (wR d) t t' ∧ gF t' d 4 = nI 0 := by
  intro j
  induction j with
  | zero =>
    intro i n t hi hn h1 h2 h3
    obtain ⟨n, rfl⟩ : ∃ j, n = j + 1 := ⟨n - 1, by omega⟩
    refine ⟨t, ?_, Fr.rf, h3.2⟩
    show B_X4_isTold_14 _ d (nI k) (nI c) K (1 : Int32) (nI i) t = _
    unfold B_X4_isTold_14
    rw [gd_n hk (by omega), ix_n (by omega), h1, if_pos (nI_le (by omega) (by omega))]
    rfl
  | succ j ih =>
    intro i n t hi hn h1 h2 h3
    obtain ⟨n, rfl⟩ : ∃ j, n = j + 1 := ⟨n - 1, by omega⟩
    obtain ⟨t1, e, fr, g⟩ := r_yearGoes h3 (hB.years 0 i) (by omega)
    have g1 : gA t1 (d + 9) k = nI z := ((fr (d + 9) (by unfold wR; omega)).2.1 k).trans h1
    have g2 : ∀ x, x < 40 → gL t1 (d + 10) (40 * k + x) = f x := fun x hx => ((fr (d + 10) (by unfold wR; omega)).2.2 _).trans (h2 x hx)
    have e3 : gA t1 (d + 1) (39 + c) = nI ((yearsS 0 m (i + 1)).1 3 c) := (g.1.2.2.2.2.1 c hc).2
    have eB : B_X4_isTold_14 (L_X4_isTold_14 d (nI k) (nI c) K n) d (nI k) (nI c) K (1 : Int32) (nI i) t = L_X4_isTold_14 d (nI k) (nI c) K n (bI (fitT m c f i)) (nI (i + 1)) t1 := by
      unfold B_X4_isTold_14
      rw [gd_n hk (by omega), ix_n (n := k) (by omega), h1, if_neg (nI_ge (by omega) (by omega)), if_neg (by decide), e, cw_s]
      rw [ix40, gd_n (show 40 * k + i < 160 by omega) (by omega), bn_e]
      dsimp only
      rw [gd_n (show 40 * k + i < 160 by omega) (by omega), ix_n (n := 40 * k + i) (by omega), g2 i (by omega), show (39 : Int32) + nI c = nI (39 + c) from nI_add 39 c, gd_n (show 39 + c < 103 by omega) (by omega), ix_n (n := 39 + c) (by omega), e3, nI_1]
      simp only [lg_cmp_eq]
      by_cases q : f i = -1
      · rw [if_pos q, show fitT m c f i = true from decide_eq_true (Or.inl q)]; rfl
      · rw [if_neg q]
        by_cases q2 : f i = (nI ((yearsS 0 m (i + 1)).1 3 c)).toInt64
        · rw [if_pos q2, show fitT m c f i = true from decide_eq_true (Or.inr q2)]; rfl
        · rw [if_neg q2, show fitT m c f i = false from decide_eq_false (fun w => w.elim q q2)]; rfl
    show ∃ t', B_X4_isTold_14 (L_X4_isTold_14 d (nI k) (nI c) K n) d (nI k) (nI c) K (1 : Int32) (nI i) t = K (bI (if fitT m c f i = true then allN (fitT m c f) j (i + 1) else false)) t' ∧ _
    rw [eB]
    cases q : fitT m c f i
    · obtain ⟨n, rfl⟩ : ∃ j, n = j + 1 := ⟨n - 1, by omega⟩
      refine ⟨t1, ?_, fr, g.2⟩
      show B_X4_isTold_14 _ d (nI k) (nI c) K (0 : Int32) (nI (i + 1)) t1 = _
      unfold B_X4_isTold_14
      rw [gd_n hk (by omega), if_pos rfl]
      split <;> rfl
    · obtain ⟨t', e', f', g'⟩ := ih (i + 1) n t1 (by omega) (by omega) g1 g2 g
      exact ⟨t', e', fr.tr f', g'⟩
theorem r_isTold (hM : MM s d 0 m) (hA : AM s d m) (hB : BM m) {p c k z v : Nat} (f : Nat → Int64) (hp : p < m.1 0 0) (hc : c < 32) (hk : k < 4) (hz : z ≤ 40) (hv : v ≤ 99) (h1 : gA s (d + 9) k = nI z) (h2 : ∀ x, x < 40 → gL s (d + 10) (40 * k + x) = f x) :
    ∃ s', f_X4_isTold d (nI k) (nI c) (nI p) (nI v) s = some (bI (fitV m p c f z v), s') ∧ Fr (wR d) s s' ∧ MM s' d 0 m ∧ AM s' d m := by
  have h8 := hB.1
  have m1 := hM.pP 2 (by omega) (p := p) (v := v)
  have fA : Fr (fun x => x = d + 1) s (pA s (d + 1) (71 + 2 + 4 * p) (nI v)) := Fr.pA rfl
  have fA2 : Fr (wR d) s (pA s (d + 1) (71 + 2 + 4 * p) (nI v)) := fA.wk (fun k q => Or.inl q)
  obtain ⟨t2, e4, f4, g4⟩ := r_toldLoop (d := d) (hB.setP 2 (by omega) (p := p) (v := v) hv) f hc hk hz (fun (e5 : Int32) (s6 : St) => cw (f_X4_putBack d s6) fun s14 => gd (zb e5) (some (e5, s14))) z 0 FU (pA s (d + 1) (71 + 2 + 4 * p) (nI v)) (by omega) (by show z + 1 < 1000; omega) ((fA2 (d + 9) (by unfold wR; omega)).2.1 k |>.trans h1) (fun x hx => ((fA2 (d + 10) (by unfold wR; omega)).2.2 _).trans (h2 x hx)) m1
  have a2 := (hA.fr1 fA).fr f4
  obtain ⟨t3, e5, f5, g5⟩ := r_back a2 h8 g4
  refine ⟨t3, ?_, (fA2.tr f4).tr (f5.wk (fun k q => Or.inl q)), g5, a2.fr1 f5⟩
  unfold f_X4_isTold
  rw [r_p2' (by omega), cw_s, li_0, e4, e5, cw_s, zb_bI, gd_t]
  rfl
theorem p_fits (hd : d = b + 53) (hX : XS s b d) (hC : CM s (b + 1) 0 m) (hM : MM s d 0 m) (hB : BM m) (a1 a2 a3 a4 : Int32) : PO b d s (f_X3_fits b a1 a2 a3 a4) (f_X4_fits d a1 a2 a3 a4) := by
  have h8 := hB.1
  have c1 := f_X3_fits.eq_1 b a1 a2 a3 a4 s
  rw [c_isSheet, cp_s, c_isCell, cp_s, c_isPerson hC h8, cp_s, c_isWithin a4 1 (n := 1) (by decide), cp_s] at c1
  have r1 : ∀ t, MM t d 0 m → f_X4_fits d a1 a2 a3 a4 t = _ := fun t ht => by unfold f_X4_fits; rw [r_isSheet, cp_s, r_isCell, cp_s, r_isPerson ht h8, cp_s, r_inN a4 1 (n := 1) (by decide), cp_s]
  cases q1 : wp a1 4
  · rw [q1] at c1; exact PO.no hC hM hB c1 (by rw [r1 s hM, q1]; rfl)
  cases q2 : wp a2 32
  · rw [q1, q2] at c1; exact PO.no hC hM hB c1 (by rw [r1 s hM, q1, q2]; rfl)
  cases q3 : wp a3 (m.1 0 0)
  · rw [q1, q2, q3] at c1; exact PO.no hC hM hB c1 (by rw [r1 s hM, q1, q2, q3]; rfl)
  cases q4 : wp a4 (1 + 1)
  · rw [q1, q2, q3, q4] at c1; exact PO.no hC hM hB c1 (by rw [r1 s hM, q1, q2, q3, q4]; rfl)
  obtain ⟨k, hk, rfl⟩ := wp_of q1 (by omega)
  obtain ⟨c, hc, rfl⟩ := wp_of q2 (by omega)
  obtain ⟨p, hp, rfl⟩ := wp_of q3 (by omega)
  obtain ⟨j, z, hj, hz, g1, g2, g3, g4, g5⟩ := hX k hk
  obtain ⟨o1, o2⟩ := sort_0 j (by omega)
  rw [q1, q2, q3, q4, if_neg bt_ne, if_neg bt_ne, if_neg bt_ne, if_neg bt_ne, gd_n hk (by omega), ix_n (n := k) (by omega), g1] at c1
  have r2 : ∀ t, MM t d 0 m → gA t (d + 8) k = nI j → f_X4_fits d (nI k) (nI c) (nI p) a4 t = _ := fun t ht h => by rw [r1 t ht, q1, q2, q3, q4, if_neg bt_ne, if_neg bt_ne, if_neg bt_ne, if_neg bt_ne, gd_n hk (by omega), ix_n (n := k) (by omega), h]
  by_cases y : j = 0
  · rw [if_pos (o1.mpr y)] at c1
    exact PO.no hC hM hB c1 (by rw [r2 s hM g2, if_pos (o2.mpr y)])
  rw [if_neg (fun t => y (o1.mp t))] at c1
  have f5 : ∀ x, x < 40 → gL s (d + 10) (40 * k + x) = gL s ((b + 44) + k) x := fun x hx => (g5 x hx).symm
  obtain ⟨f, hf⟩ : ∃ f : Nat → Int64, f = fun x => gL s ((b + 44) + k) x := ⟨_, rfl⟩
  have cF : ∀ x, x < 40 → gL s ((b + 44) + k) x = f x := fun x _ => by rw [hf]
  have rF : ∀ x, x < 40 → gL s (d + 10) (40 * k + x) = f x := fun x hx => (f5 x hx).trans (cF x hx)
  obtain ⟨P, hP⟩ : ∃ P : Nat → Bool, P = fitV m p c f z := ⟨_, rfl⟩
  have keyC : ∀ (i n : Nat) (t : St), i ≤ 100 → i < n → Fr (wM (b + 10)) s t → ∃ t', L_X3_fits_57 b (nI k) (nI c) (nI p) a4 (fun (e10 : Int32) (e11 : Int32) (s12 : St) => (if a4 = 0 then some (e10, s12) else some (e11, s12))) n (nI (cntD P (100 - i) i)) (fstN P (100 - i) i) (nI i - 1) t = (if a4 = 0 then some (nI (cntD P 100 0), t') else some (fstN P 100 0, t')) ∧ Fr (wM (b + 10)) s t' := by
    intro i
    induction i with
    | zero =>
      intro n t hi hn hF
      obtain ⟨n, rfl⟩ : ∃ j, n = j + 1 := ⟨n - 1, by omega⟩
      refine ⟨t, ?_, hF⟩
      show B_X3_fits_57 _ b (nI k) (nI c) (nI p) a4 _ _ _ (nI 0 - 1) t = _
      unfold B_X3_fits_57
      rw [if_pos (by decide)]
    | succ i ih =>
      intro n t hi hn hF
      obtain ⟨n, rfl⟩ : ∃ j, n = j + 1 := ⟨n - 1, by omega⟩
      have hCt : CM t (b + 1) 0 m := hC.fr hF (fun k q1 q2 => by unfold wM; omega)
      obtain ⟨t2, e2, f2⟩ := c_fitsWith hCt hB f hp hc hk hz (v := i) (by omega) (((hF (b + 42) (by unfold wM; omega)).2.1 k).trans g3) (fun x hx => ((hF ((b + 44) + k) (by unfold wM; omega)).2.2 x).trans (cF x hx))
      obtain ⟨t', e', f'⟩ := ih n t2 (by omega) (by omega) (hF.tr f2)
      refine ⟨t', ?_, f'⟩
      rw [← e']
      show B_X3_fits_57 (L_X3_fits_57 b (nI k) (nI c) (nI p) a4 _ n) b (nI k) (nI c) (nI p) a4 _ _ _ (nI (i + 1) - 1) t = _
      unfold B_X3_fits_57
      rw [nI_pred, if_neg (nI_pos (by omega)), e2, cb_s, bn_e, show nI i + (-1 : Int32) = nI i - 1 from (Int32.sub_eq_add_neg (nI i) 1).symm, nI_1, ← hP, show 100 - i = (100 - (i + 1)) + 1 by omega]
      rw [show cntD P (100 - (i + 1) + 1) i = (if P i = true then 1 else 0) + cntD P (100 - (i + 1)) (i + 1) from rfl, show fstN P (100 - (i + 1) + 1) i = if P i = true then nI i else fstN P (100 - (i + 1)) (i + 1) from rfl]
      dsimp only
      cases P i
      · rw [if_pos bf_eq, if_neg Bool.false_ne_true, if_neg Bool.false_ne_true, Nat.zero_add]
      · rw [if_neg bt_ne, if_pos rfl, if_pos rfl, Nat.add_comm]
  obtain ⟨s2, e2, f2⟩ := keyC 100 FU s (by omega) (by show 100 < 1000; omega) Fr.rf
  rw [show (100 - 100 : Nat) = 0 from rfl, show nI (cntD P 0 100) = 0 from rfl, show fstN P 0 100 = -3 from rfl, show (nI 100 - 1 : Int32) = 99 by decide] at e2
  rw [e2] at c1
  obtain ⟨x, hx⟩ : ∃ x : Int32, x = if a4 = 0 then nI (cntD P 100 0) else fstN P 100 0 := ⟨_, rfl⟩
  have ex : ∀ t : St, (if a4 = 0 then some (nI (cntD P 100 0), t) else some (fstN P 100 0, t)) = some (x, t) := fun t => by rw [hx]; split <;> rfl
  rw [ex] at c1
  refine PO.mk hd hM hB c1 (f2.wk (fun k q => by unfold wM at q; unfold wC; omega)) (hC.fr f2 (fun k q1 q2 => by unfold wM; omega)) (fun hM1 => ?_)
  obtain ⟨t1, e3, f3, m3, a3⟩ := r_aside hM1 h8
  have F3 : ∀ {w : St}, Fr (wR d) t1 w → ∀ y, (y = d + 9 ∨ y = d + 10 ∨ y = d + 8) → (∀ i, gA w y i = gA s y i) ∧ (∀ i, gL w y i = gL s y i) := fun {w} fw y hy => ⟨fun i => ((fw y (by unfold wR; omega)).2.1 i).trans (((f3 y (by omega)).2.1 i).trans ((f2 y (by unfold wM; omega)).2.1 i)), fun i => ((fw y (by unfold wR; omega)).2.2 i).trans (((f3 y (by omega)).2.2 i).trans ((f2 y (by unfold wM; omega)).2.2 i))⟩
  have keyR : ∀ (r i n : Nat) (t : St), i + r = 100 → r < n → Fr (wR d) t1 t → MM t d 0 m → AM t d m → ∃ t', L_X4_fits_61 d (nI k) (nI c) (nI p) a4 (fun (e11 : Int32) (e12 : Int32) (s13 : St) => (if a4 = 0 then some (e11, s13) else some (e12, s13))) n (nI (cntD P i 0)) (fstN P i 0) (nI i) t = (if a4 = 0 then some (nI (cntD P 100 0), t') else some (fstN P 100 0, t')) ∧ Fr (wR d) t1 t' ∧ MM t' d 0 m := by
    intro r
    induction r with
    | zero =>
      intro i n t hi hn hF hMt hA
      obtain ⟨n, rfl⟩ : ∃ j, n = j + 1 := ⟨n - 1, by omega⟩
      refine ⟨t, ?_, hF, hMt⟩
      have : i = 100 := by omega
      subst this
      show B_X4_fits_61 _ d (nI k) (nI c) (nI p) a4 _ _ _ (nI 100) t = _
      unfold B_X4_fits_61
      rw [if_pos (by decide)]
    | succ r ih =>
      intro i n t hi hn hF hMt hA
      obtain ⟨n, rfl⟩ : ∃ j, n = j + 1 := ⟨n - 1, by omega⟩
      obtain ⟨t2, e4, f4, m4, a4'⟩ := r_isTold hMt hA hB f hp hc hk hz (v := i) (by omega) (((F3 hF (d + 9) (by omega)).1 k).trans g4) (fun x hx => ((F3 hF (d + 10) (by omega)).2 _).trans (rF x hx))
      obtain ⟨t', e', f', m'⟩ := ih (i + 1) n t2 (by omega) (by omega) (hF.tr f4) m4 a4'
      refine ⟨t', ?_, f', m'⟩
      rw [← e']
      show B_X4_fits_61 (L_X4_fits_61 d (nI k) (nI c) (nI p) a4 _ n) d (nI k) (nI c) (nI p) a4 _ _ _ (nI i) t = _
      have hl := cntD_le P i 0
      have z0 : (nI (cntD P i 0) = 0) ↔ cntD P i 0 = 0 := by rw [← nI_0]; exact nI_eq (by omega) (by omega)
      unfold B_X4_fits_61
      rw [if_neg (by rw [li_99]; exact nI_nlt (by omega) (by omega)), e4, cb_s, bn_e, nI_1, ← hP, cntD_snoc, fstN_snoc, Nat.zero_add]
      dsimp only
      cases P i
      · rw [if_pos bf_eq, if_neg Bool.false_ne_true, if_neg Bool.false_ne_true, Nat.add_zero]
        by_cases w : cntD P i 0 = 0
        · rw [if_pos w, fst_none P i 0 w]; rfl
        · rw [if_neg w]; rfl
      · rw [if_neg bt_ne, bn_e, if_pos (rfl : true = true), if_pos (rfl : true = true)]
        dsimp only
        by_cases w : cntD P i 0 = 0
        · rw [if_pos (z0.mpr w), if_pos w, nI_1]
        · rw [if_neg (fun q => w (z0.mp q)), if_neg w, nI_1]
  obtain ⟨t2, e4, f4, m4⟩ := keyR 100 0 FU t1 (by omega) (by show 100 < 1000; omega) Fr.rf m3 a3
  rw [show nI (cntD P 0 0) = 0 from rfl, show fstN P 0 0 = -3 from rfl, nI_0] at e4
  refine ⟨t2, ?_, (f3.wk (fun k q => Or.inr (Or.inl q))).tr (f4.wk (fun k q => by unfold wR at q; omega)), m4⟩
  rw [r2 _ hM1 (((f2 (d + 8) (by unfold wM; omega)).2.1 k).trans g2), if_neg (fun t => y (o2.mp t)), e3, cw_s, e4, ex]
end FITS
