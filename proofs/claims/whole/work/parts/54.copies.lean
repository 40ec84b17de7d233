/-! copies in the reference; level; when first -/
theorem RM.ext {f g : Nat → Int32} {m : MS} (h : RM f m) (h8 : m.1 0 0 ≤ 8) (e : ∀ j, j < 103 → g j = f j) : RM g m := by
  obtain ⟨h1, h2, h3, h4, h5, h6⟩ := h
  refine ⟨(e 4 (by omega)).trans h1, (e 6 (by omega)).trans h2, (e 5 (by omega)).trans h3, fun i hi => (e i (by omega)).trans (h4 i hi), fun c hc => ⟨(e _ (by omega)).trans (h5 c hc).1, (e _ (by omega)).trans (h5 c hc).2⟩, fun p hp => ?_⟩
  obtain ⟨x1, x2, x3, x4⟩ := h6 p hp
  exact ⟨(e _ (by omega)).trans x1, (e _ (by omega)).trans x2, (e _ (by omega)).trans x3, (e _ (by omega)).trans x4⟩
def fstN (T : Nat → Bool) : Nat → Nat → Int32
  | 0, _ => -3
  | k + 1, i => if T i = true then nI i else fstN T k (i + 1)
section COPIES
variable {s : St} {b d mu : Nat} {m : MS}
theorem r_keepAside (s : St) : ∃ s', f_X4_keepAside d s = some s' ∧ Fr (fun k => k = d + 3) s s' ∧ ∀ j, j < 103 → gA s' (d + 3) j = gA s (d + 1) j := by
  refine loop0 (fun n c s => L_X4_keepAside_2 d (fun s3 => some s3) n c s) (fun s3 => some s3) 103 (by omega) (fun i t => Fr (fun k => k = d + 3) s t ∧ ∀ j, j < i → gA t (d + 3) j = gA s (d + 1) j) s ⟨Fr.rf, fun j hj => absurd hj (by omega)⟩ ?_ ?_
  · intro n t _
    show B_X4_keepAside_2 _ d _ (nI 103) t = _
    unfold B_X4_keepAside_2
    exact if_pos (nI_le (Nat.le_refl 103) (by omega))
  · intro n i t hi ⟨hF, hC⟩
    show ∃ s', B_X4_keepAside_2 (L_X4_keepAside_2 d (fun s3 => some s3) n) d _ (nI i) t = L_X4_keepAside_2 d (fun s3 => some s3) n (nI (i + 1)) s' ∧ _
    unfold B_X4_keepAside_2
    rw [if_neg (by rw [li_103]; exact nI_ge hi (by omega)), gd_n hi (by omega), gd_n hi (by omega), ix_n (by omega), bn_e, nI_1]
    refine ⟨_, rfl, hF.tr (Fr.pA rfl), fun j hj => ?_⟩
    rw [gA_pA]
    by_cases q : j = i
    · rw [if_pos ⟨rfl, q⟩, q, (hF (d + 1) (by omega)).2.1]
    · rw [if_neg (fun z => q z.2)]; exact hC j (by omega)
theorem r_putBack (s : St) : ∃ s', f_X4_putBack d s = some s' ∧ Fr (fun k => k = d + 1) s s' ∧ ∀ j, j < 103 → gA s' (d + 1) j = gA s (d + 3) j := by
  refine loop0 (fun n c s => L_X4_putBack_2 d (fun s3 => some s3) n c s) (fun s3 => some s3) 103 (by omega) (fun i t => Fr (fun k => k = d + 1) s t ∧ ∀ j, j < i → gA t (d + 1) j = gA s (d + 3) j) s ⟨Fr.rf, fun j hj => absurd hj (by omega)⟩ ?_ ?_
  · intro n t _
    show B_X4_putBack_2 _ d _ (nI 103) t = _
    unfold B_X4_putBack_2
    exact if_pos (nI_le (Nat.le_refl 103) (by omega))
  · intro n i t hi ⟨hF, hC⟩
    show ∃ s', B_X4_putBack_2 (L_X4_putBack_2 d (fun s3 => some s3) n) d _ (nI i) t = L_X4_putBack_2 d (fun s3 => some s3) n (nI (i + 1)) s' ∧ _
    unfold B_X4_putBack_2
    rw [if_neg (by rw [li_103]; exact nI_ge hi (by omega)), gd_n hi (by omega), gd_n hi (by omega), ix_n (by omega), bn_e, nI_1]
    refine ⟨_, rfl, hF.tr (Fr.pA rfl), fun j hj => ?_⟩
    rw [gA_pA]
    by_cases q : j = i
    · rw [if_pos ⟨rfl, q⟩, q, (hF (d + 3) (by omega)).2.1]
    · rw [if_neg (fun z => q z.2)]; exact hC j (by omega)
/-- what lies aside holds m -/
def AM (s : St) (d : Nat) (m : MS) : Prop := RM (gA s (d + 3)) m
theorem r_aside (h : MM s d mu m) (h8 : m.1 0 0 ≤ 8) : ∃ s', f_X4_keepAside d s = some s' ∧ Fr (fun k => k = d + 3) s s' ∧ MM s' d mu m ∧ AM s' d m := by
  obtain ⟨s', e, f, g⟩ := r_keepAside (d := d) s
  exact ⟨s', e, f, h.fr f (by omega) (by omega), h.1.ext h8 g⟩
theorem AM.fr {t : St} (h : AM s d m) (f : Fr (wR d) s t) : AM t d m := by
  unfold AM
  have g : gA t (d + 3) = gA s (d + 3) := funext (f (d + 3) (by unfold wR; omega)).2.1
  rw [g]; exact h
theorem r_back (h : AM s d m) (h8 : m.1 0 0 ≤ 8) (hmu : gF s d 4 = nI mu) : ∃ s', f_X4_putBack d s = some s' ∧ Fr (fun k => k = d + 1) s s' ∧ MM s' d mu m := by
  obtain ⟨s', e, f, g⟩ := r_putBack (d := d) s
  exact ⟨s', e, f, h.ext h8 g, ((f d (by omega)).1 4).trans hmu⟩
theorem AM.fr1 {t : St} (h : AM s d m) (f : Fr (fun k => k = d + 1) s t) : AM t d m := h.fr (f.wk (fun k q => Or.inl q))
theorem p_level (hd : d = b + 53) (hC : CM s (b + 1) 0 m) (hM : MM s d 0 m) (hB : BM m) (a1 a2 : Int32) : PO b d s (f_X3_level b a1 a2) (f_X4_level d a1 a2) := by
  have h8 := hB.1
  have c1 := f_X3_level.eq_1 b a1 a2 s
  rw [c_isCell, cp_s, c_isWithin a2 60 (n := 60) (by decide), cp_s] at c1
  have r1 : ∀ t, f_X4_level d a1 a2 t = (if bI (wp a1 32) = 0 then some ((-1 : Int32), t) else (if bI (wp a2 (60 + 1)) = 0 then some ((-1 : Int32), t) else cw (f_X4_keepAside d t) fun s3 => cb (f_X4_levelWith d a1 a2 (-1 : Int32) (0 : Int32) s3) fun x5 s4 => some (x5, s4))) := fun t => by
    unfold f_X4_level
    rw [r_isCell, cp_s, r_inN a2 60 (n := 60) (by decide), cp_s]
  cases h : wp a1 32
  · rw [h] at c1; exact PO.no hC hM hB c1 (by rw [r1, h]; rfl)
  cases h2 : wp a2 (60 + 1)
  · rw [h, h2] at c1; exact PO.no hC hM hB c1 (by rw [r1, h, h2]; rfl)
  obtain ⟨c, hc, rfl⟩ := wp_of h (by omega)
  obtain ⟨n, hn, rfl⟩ := wp_of h2 (by omega)
  obtain ⟨s1, e1, f1, g1⟩ := c_become hC h8 (b := b + 10) (by omega)
  obtain ⟨s2, e2, f2, g2⟩ := c_passYears g1 hB (by omega) (show n ≤ 60 by omega)
  rw [h, h2, if_neg bt_ne, if_neg bt_ne, e1, cw_s, e2, cw_s, gd_n hc (by omega), ix_n (by omega), (g2.2.2.2.2.2.1 c hc).2.1] at c1
  have fC : Fr (wM (b + 10)) s s2 := f1.tr f2
  refine PO.mk hd hM hB c1 (fC.wk (fun k q => by unfold wM at q; unfold wC; omega)) (hC.fr fC (fun k q1 q2 => by unfold wM; omega)) (fun hM1 => ?_)
  obtain ⟨t1, e3, f3, g3, a3⟩ := r_aside hM1 h8
  obtain ⟨t2, e4, f4, g4⟩ := r_yearsGo g3 hB (by omega) (show n ≤ 60 by omega)
  obtain ⟨t3, e5, f5, g5⟩ := r_back (a3.fr f4) h8 g4.2
  refine ⟨t3, ?_, (((f3.wk (fun k q => Or.inr (Or.inl q))).tr (f4.wk (fun k q => by unfold wR at q; omega))).tr (f5.wk (fun k q => Or.inl q))), g5⟩
  rw [r1, h, h2, if_neg bt_ne, if_neg bt_ne, e3, cw_s]
  unfold f_X4_levelWith
  rw [bn_e, if_pos (by decide)]
  dsimp only
  rw [e4, cw_s, show (39 : Int32) + nI c = nI (39 + c) from nI_add 39 c, gd_n (show 39 + c < 103 by omega) (by omega), ix_n (by omega), bn_e, e5, cw_s, cb_s, (g4.1.2.2.2.2.1 c hc).2]
theorem three_ne {i : Nat} (h : i < 2 ^ 31) : ¬ nI i = (-3 : Int32) := fun z => by
  have := congrArg Int32.toInt z
  rw [nI_toInt h, show ((-3 : Int32)).toInt = -3 from rfl] at this
  omega
/-- the reference's search for the first year -/
theorem r_first (h : MM s d mu m) (hB : BM m) (hmu : mu < 256) (a1 a2 : Int32) (T : Nat → Bool) (K : Int32 → St → Option (Int32 × St))
    (hT : ∀ (i : Nat) (t : St) (f : Int32 → Option (Int32 × St)), i < 61 → MM t d mu (yearsS mu m i) → (if a1 = 0 then cp (f_X4_isWet d a2 t) fun x11 => f x11 else (if a1 = (1 : Int32) then cp (f_X4_get d a2 (2 : Int32) t) fun x10 => (if x10 = 0 then f (1 : Int32) else f (0 : Int32)) else cp (f_X4_isDrowned d t) fun x9 => f x9)) = f (bI (T i))) :
    ∀ (k i n : Nat) (t : St), i + k = 61 → k + 1 < n → MM t d mu (yearsS mu m i) → ∃ t', L_X4_whenFirst_10 d a1 a2 K n (-3 : Int32) (nI i) t = K (fstN T k i) t' ∧ Fr (wR d) t t' ∧ gF t' d 4 = nI mu := by
  intro k
  induction k with
  | zero =>
    intro i n t hi hn hM
    obtain ⟨n, rfl⟩ : ∃ j, n = j + 1 := ⟨n - 1, by omega⟩
    refine ⟨t, ?_, Fr.rf, hM.2⟩
    show B_X4_whenFirst_10 _ d a1 a2 K (-3 : Int32) (nI i) t = _
    unfold B_X4_whenFirst_10
    rw [if_pos (by rw [li_60]; exact nI_lt (by omega) (by omega))]
    rfl
  | succ k ih =>
    intro i n t hi hn hM
    obtain ⟨n, rfl⟩ : ∃ j, n = j + 1 := ⟨n - 1, by omega⟩
    obtain ⟨t1, e, f, g⟩ := r_yearGoes hM (hB.years mu i) hmu
    have eB : ∀ n', B_X4_whenFirst_10 (L_X4_whenFirst_10 d a1 a2 K n') d a1 a2 K (-3 : Int32) (nI i) t = L_X4_whenFirst_10 d a1 a2 K n' (if T i = true then nI i else (-3 : Int32)) (nI (i + 1)) t1 := by
      intro n'
      unfold B_X4_whenFirst_10
      rw [if_neg (by rw [li_60]; exact nI_nlt (by omega) (by omega)), if_pos rfl, bn_e, hT i t _ (by omega) hM, bn_e, nI_1]
      cases T i
      · rw [if_pos bf_eq, e]
        dsimp only
        rw [cw_s, if_neg Bool.false_ne_true]
      · rw [if_neg bt_ne, e]
        dsimp only
        rw [cw_s, if_pos (rfl : true = true)]
    show ∃ t', B_X4_whenFirst_10 (L_X4_whenFirst_10 d a1 a2 K n) d a1 a2 K (-3 : Int32) (nI i) t = K (if T i = true then nI i else fstN T k (i + 1)) t' ∧ _
    rw [eB]
    by_cases q : T i = true
    · rw [if_pos q, if_pos q]
      obtain ⟨n, rfl⟩ : ∃ j, n = j + 1 := ⟨n - 1, by omega⟩
      refine ⟨t1, ?_, f, g.2⟩
      show B_X4_whenFirst_10 _ d a1 a2 K (nI i) (nI (i + 1)) t1 = _
      unfold B_X4_whenFirst_10
      rw [if_neg (three_ne (i := i) (by omega))]
      split <;> rfl
    · rw [if_neg q, if_neg q]
      obtain ⟨t', e', f', g'⟩ := ih (i + 1) n t1 (by omega) (by omega) g
      exact ⟨t', e', f.tr f', g'⟩
theorem r_whenFirst (h : MM s d 0 m) (hB : BM m) (a1 a2 : Int32) (T : Nat → Bool)
    (hT : ∀ (i : Nat) (t : St) (f : Int32 → Option (Int32 × St)), i < 61 → MM t d 0 (yearsS 0 m i) → (if a1 = 0 then cp (f_X4_isWet d a2 t) fun x11 => f x11 else (if a1 = (1 : Int32) then cp (f_X4_get d a2 (2 : Int32) t) fun x10 => (if x10 = 0 then f (1 : Int32) else f (0 : Int32)) else cp (f_X4_isDrowned d t) fun x9 => f x9)) = f (bI (T i))) :
    ∃ s', f_X4_whenFirst d a1 a2 s = some (fstN T 61 0, s') ∧ Fr (wQ d) s s' ∧ MM s' d 0 m := by
  obtain ⟨t1, e3, f3, g3, a3⟩ := r_aside h hB.1
  obtain ⟨t2, e4, f4, g4⟩ := r_first g3 hB (by omega) a1 a2 T (fun (e5 : Int32) (s6 : St) => cw (f_X4_putBack d s6) fun s15 => some (e5, s15)) hT 61 0 FU t1 (by omega) (by show 62 < 1000; omega) g3
  obtain ⟨t3, e5, f5, g5⟩ := r_back (a3.fr f4) hB.1 g4
  refine ⟨t3, ?_, (((f3.wk (fun k q => Or.inr (Or.inl q))).tr (f4.wk (fun k q => by unfold wR at q; omega))).tr (f5.wk (fun k q => Or.inl q))), g5⟩
  unfold f_X4_whenFirst
  rw [e3, cw_s, li_0, e4, e5, cw_s]
/-- the other side's search -/
theorem c_first (hB : BM m) (L : Nat → Int32 → St → Option (Int32 × St)) (T : Nat → Bool) (hz : ∀ n t, L (n + 1) (nI 61) t = some (-3, t)) (hs : ∀ n i t, i < 61 → CM t (b + 10) 0 (yearsS 0 m i) → L (n + 1) (nI i) t = if T i = true then some (nI i, t) else cw (f_X1_passYear (b + 10) t) fun s => L n (nI (i + 1)) s) (h : CM s (b + 10) 0 m) : ∃ s', L FU (0 : Int32) s = some (fstN T 61 0, s') ∧ Fr (wM (b + 10)) s s' := by
  have key : ∀ (k i n : Nat) (t : St), i + k = 61 → k < n → CM t (b + 10) 0 (yearsS 0 m i) → ∃ t', L n (nI i) t = some (fstN T k i, t') ∧ Fr (wM (b + 10)) t t' := by
    intro k
    induction k with
    | zero =>
      intro i n t hi hn hM
      obtain ⟨n, rfl⟩ : ∃ j, n = j + 1 := ⟨n - 1, by omega⟩
      have : i = 61 := by omega
      subst this
      exact ⟨t, hz n t, Fr.rf⟩
    | succ k ih =>
      intro i n t hi hn hM
      obtain ⟨n, rfl⟩ : ∃ j, n = j + 1 := ⟨n - 1, by omega⟩
      rw [hs n i t (by omega) hM]
      show ∃ t', _ = some ((if T i = true then nI i else fstN T k (i + 1)), t') ∧ _
      by_cases q : T i = true
      · rw [if_pos q, if_pos q]; exact ⟨t, rfl, Fr.rf⟩
      · obtain ⟨t1, e, f, g⟩ := c_passYear hM (hB.years 0 i) (by omega)
        rw [if_neg q, if_neg q, e, cw_s]
        obtain ⟨t', e', f'⟩ := ih (i + 1) n t1 (by omega) (by omega) g
        exact ⟨t', e', f.tr f'⟩
  exact key 61 0 FU s (by omega) (by show 61 < 1000; omega) h
/-- a search on both sides -/
theorem p_search (hd : d = b + 53) (hC : CM s (b + 1) 0 m) (hM : MM s d 0 m) (hB : BM m) (L : Nat → Int32 → St → Option (Int32 × St)) (T : Nat → Bool) (a1 a2 : Int32) (f g : St → Option (Int32 × St))
    (hz : ∀ n t, L (n + 1) (nI 61) t = some (-3, t)) (hs : ∀ n i t, i < 61 → CM t (b + 10) 0 (yearsS 0 m i) → L (n + 1) (nI i) t = if T i = true then some (nI i, t) else cw (f_X1_passYear (b + 10) t) fun s => L n (nI (i + 1)) s)
    (hT : ∀ (i : Nat) (t : St) (f : Int32 → Option (Int32 × St)), i < 61 → MM t d 0 (yearsS 0 m i) → (if a1 = 0 then cp (f_X4_isWet d a2 t) fun x11 => f x11 else (if a1 = (1 : Int32) then cp (f_X4_get d a2 (2 : Int32) t) fun x10 => (if x10 = 0 then f (1 : Int32) else f (0 : Int32)) else cp (f_X4_isDrowned d t) fun x9 => f x9)) = f (bI (T i)))
    (hf : f s = cw (f_X1_become (b + 10) (b + 1) s) fun s2 => L FU (0 : Int32) s2) (hg : ∀ t, MM t d 0 m → g t = cb (f_X4_whenFirst d a1 a2 t) fun x3 s2 => some (x3, s2)) : PO b d s f g := by
  obtain ⟨s1, e1, f1, g1⟩ := c_become hC hB.1 (b := b + 10) (by omega)
  obtain ⟨s2, e2, f2⟩ := c_first hB L T hz hs g1
  rw [e1, cw_s, e2] at hf
  have fC : Fr (wM (b + 10)) s s2 := f1.tr f2
  refine PO.mk hd hM hB hf (fC.wk (fun k q => by unfold wM at q; unfold wC; omega)) (hC.fr fC (fun k q1 q2 => by unfold wM; omega)) (fun hM1 => ?_)
  obtain ⟨t1, e3, f3, g3⟩ := r_whenFirst hM1 hB a1 a2 T hT
  exact ⟨t1, by rw [hg _ hM1, e3, cb_s], f3, g3⟩
theorem out60 : (60 : Int32) < nI 61 := by decide
theorem in60 {i : Nat} (h : i < 61) : ¬ (60 : Int32) < nI i := by rw [li_60]; exact nI_nlt (by omega) (by omega)
theorem p_damp (hd : d = b + 53) (hC : CM s (b + 1) 0 m) (hM : MM s d 0 m) (hB : BM m) (a1 : Int32) : PO b d s (f_X3_damp b a1) (f_X4_damp d a1) := by
  have c1 := f_X3_damp.eq_1 b a1 s
  rw [c_isCell, cp_s] at c1
  have r1 : ∀ t, f_X4_damp d a1 t = (if bI (wp a1 32) = 0 then some ((-1 : Int32), t) else cb (f_X4_whenFirst d (0 : Int32) a1 t) fun x3 s2 => some (x3, s2)) := fun t => by unfold f_X4_damp; rw [r_isCell, cp_s]
  cases h : wp a1 32
  · rw [h] at c1; exact PO.no hC hM hB c1 (by rw [r1, h]; rfl)
  obtain ⟨c, hc, rfl⟩ := wp_of h (by omega)
  rw [h, if_neg bt_ne] at c1
  refine p_search hd hC hM hB (L_X3_damp_22 b (nI c)) (fun i => decide (10 ≤ (yearsS 0 m i).1 3 c)) 0 (nI c) _ _ (fun n t => ?_) (fun n i t hi hMi => ?_) (fun i t f hi hMi => ?_) c1 (fun t _ => by rw [r1, h, if_neg bt_ne])
  · show B_X3_damp_22 _ b (nI c) (nI 61) t = _
    unfold B_X3_damp_22
    rw [if_pos out60]
  · show B_X3_damp_22 (L_X3_damp_22 b (nI c) n) b (nI c) (nI i) t = _
    unfold B_X3_damp_22
    rw [if_neg (in60 hi), c_isWet hMi (hB.years 0 i) hc, cp_s, nI_1]
    cases q : decide (10 ≤ (yearsS 0 m i).1 3 c)
    · rw [if_pos bf_eq, if_neg Bool.false_ne_true]
    · rw [if_neg bt_ne, if_pos (rfl : true = true)]
  · rw [if_pos rfl, r_isWet hMi (hB.years 0 i) hc, cp_s]
theorem years_0 (mu : Nat) (m : MS) : ∀ i, (yearsS mu m i).1 0 0 = m.1 0 0
  | 0 => rfl
  | i + 1 => years_0 mu m i
theorem p_loss (hd : d = b + 53) (hC : CM s (b + 1) 0 m) (hM : MM s d 0 m) (hB : BM m) (a1 : Int32) : PO b d s (f_X3_loss b a1) (f_X4_loss d a1) := by
  have h8 := hB.1
  have c1 := f_X3_loss.eq_1 b a1 s
  rw [c_isPerson hC h8, cp_s] at c1
  have r1 : ∀ t, MM t d 0 m → f_X4_loss d a1 t = (if bI (wp a1 (m.1 0 0)) = 0 then some ((-1 : Int32), t) else cb (f_X4_whenFirst d (1 : Int32) a1 t) fun x3 s2 => some (x3, s2)) := fun t ht => by unfold f_X4_loss; rw [r_isPerson ht h8, cp_s]
  cases h : wp a1 (m.1 0 0)
  · rw [h] at c1; exact PO.no hC hM hB c1 (by rw [r1 s hM, h]; rfl)
  obtain ⟨p, hp, rfl⟩ := wp_of h (by omega)
  rw [h, if_neg bt_ne] at c1
  refine p_search hd hC hM hB (L_X3_loss_23 b (nI p)) (fun i => decide ((yearsS 0 m i).1 7 p = 0)) 1 (nI p) _ _ (fun n t => ?_) (fun n i t hi hMi => ?_) (fun i t f hi hMi => ?_) c1 (fun t ht => by rw [r1 t ht, h, if_neg bt_ne])
  · show B_X3_loss_23 _ b (nI p) (nI 61) t = _
    unfold B_X3_loss_23
    rw [if_pos out60]
  · show B_X3_loss_23 (L_X3_loss_23 b (nI p) n) b (nI p) (nI i) t = _
    unfold B_X3_loss_23
    rw [if_neg (in60 hi), c_isLost hMi (hB.years 0 i) (by rw [years_0]; exact hp), cp_s, nI_1]
    cases q : decide ((yearsS 0 m i).1 7 p = 0)
    · rw [if_pos bf_eq, if_neg Bool.false_ne_true]
    · rw [if_neg bt_ne, if_pos (rfl : true = true)]
  · have hb' := hB.years 0 i
    have b7 := (hb'.2.2.2.2.2 p (by rw [years_0]; exact hp)).2.2.1
    have z : (nI ((yearsS 0 m i).1 7 p) = 0) ↔ (yearsS 0 m i).1 7 p = 0 := by rw [← nI_0]; exact nI_eq (by omega) (by omega)
    rw [if_neg (by decide), if_pos rfl, r_g2 hMi (by rw [years_0]; exact h8) (by rw [years_0]; exact hp), cp_s]
    by_cases q : (yearsS 0 m i).1 7 p = 0
    · rw [if_pos (z.mpr q), decide_eq_true q]; rfl
    · rw [if_neg (fun w => q (z.mp w)), decide_eq_false q]; rfl
/-- everyone stands in water -/
def drN (m : MS) : Nat → Bool
  | 0 => true
  | n + 1 => drN m n && decide (10 ≤ m.1 3 (m.1 8 n))
theorem drN_iff (m : MS) : ∀ n, drN m n = true ↔ ∀ p, p < n → 10 ≤ m.1 3 (m.1 8 p)
  | 0 => by simp [drN]
  | n + 1 => by
    unfold drN
    rw [Bool.and_eq_true, drN_iff m n]
    constructor
    · rintro ⟨h1, h2⟩ p hp
      by_cases q : p = n
      · rw [q]; exact of_decide_eq_true h2
      · exact h1 p (by omega)
    · intro h
      exact ⟨fun p hp => h p (by omega), decide_eq_true (h n (by omega))⟩
theorem r_isDrowned (h : MM s d mu m) (hB : BM m) : f_X4_isDrowned d s = some (bI (drN m (m.1 0 0))) := by
  have h8 := hB.1
  have e := loopA (S := Unit) (fun n x i => L_X4_isDrowned_4 d s (fun e3 => gd (zb e3) (some e3)) n x i) (fun e3 => gd (zb e3) (some e3)) (m.1 0 0) (by omega) (fun i => bI (drN m i)) (fun n => by
    show B_X4_isDrowned_4 _ d s _ _ _ = _
    unfold B_X4_isDrowned_4
    rw [h.1.2.2.1]
    exact if_pos (nI_le (Nat.le_refl _) (by omega))) (fun n i hi => by
    show B_X4_isDrowned_4 (L_X4_isDrowned_4 d s (fun e3 => gd (zb e3) (some e3)) n) d s _ _ _ = L_X4_isDrowned_4 d s (fun e3 => gd (zb e3) (some e3)) n (bI (drN m i && decide (10 ≤ m.1 3 (m.1 8 i)))) _
    have b8 := (hB.2.2.2.2.2 i hi).2.2.2
    unfold B_X4_isDrowned_4
    rw [h.1.2.2.1, if_neg (nI_ge hi (by omega)), bn_e, r_g3 h h8 hi, cp_s, r_isWet h hB (by omega), cp_s, nI_1]
    dsimp only
    cases drN m i
    · rw [if_pos bf_eq]; rfl
    · rw [if_neg bt_ne]
      cases q : decide (10 ≤ m.1 3 (m.1 8 i))
      · rw [if_pos bf_eq]; rfl
      · rw [if_neg bt_ne]; rfl)
  refine e.trans ?_
  rw [zb_bI, gd_t]
theorem and_not {x y : Nat} (hx : x < 2 ^ 32) (hy : y < 2 ^ 32) : ((lN x &&& (lN y ^^^ (-1 : Int64))) = 0) ↔ ∀ c, c < 32 → x.testBit c = true → y.testBit c = true := by
  have hb : ∀ i, i < 64 → (lN x &&& (lN y ^^^ (-1 : Int64))).toBitVec.getLsbD i = (x.testBit i && !(y.testBit i)) := by
    intro i hi
    rw [Int64.toBitVec_and, Int64.toBitVec_xor, BitVec.getLsbD_and, BitVec.getLsbD_xor, wb_tb, wb_tb, BitVec.getLsbD_ofNat, BitVec.getLsbD_ofNat, show ((-1 : Int64)).toBitVec = BitVec.allOnes 64 from by decide, BitVec.getLsbD_allOnes, decide_eq_true hi]
    simp
  constructor
  · intro h c hc hxc
    have := hb c (by omega)
    rw [h, hxc] at this
    simpa using this.symm
  · intro h
    apply Int64.toBitVec_inj.mp
    apply BitVec.eq_of_getLsbD_eq
    intro i hi
    rw [hb i hi]
    show _ = (0 : BitVec 64).getLsbD i
    rw [show (0 : BitVec 64).getLsbD i = false from by simp]
    by_cases q : i < 32
    · have := h i q
      cases z : x.testBit i
      · rfl
      · rw [this z]; rfl
    · have : x.testBit i = false := Nat.testBit_lt_two_pow (Nat.lt_of_lt_of_le hx (Nat.pow_le_pow_right (by omega) (by omega)))
      rw [this]; rfl
theorem trod_iff {n : Nat} (m : MS) (c : Nat) : (!decide (mkN (atB m c) n = 0)) = true ↔ ∃ p, p < n ∧ m.1 8 p = c := by
  induction n with
  | zero => simp [mkN]
  | succ n ih =>
    have hp := Nat.two_pow_pos n
    show (!decide ((if atB m c n = true then mkN (atB m c) n + 2 ^ n else mkN (atB m c) n) = 0)) = true ↔ _
    by_cases q : m.1 8 n = c
    · rw [show atB m c n = true from decide_eq_true q, if_pos (rfl : true = true), decide_eq_false (by omega)]
      exact ⟨fun _ => ⟨n, by omega, q⟩, fun _ => rfl⟩
    · rw [show atB m c n = false from decide_eq_false q, if_neg Bool.false_ne_true, ih]
      constructor
      · rintro ⟨p, h1, h2⟩; exact ⟨p, by omega, h2⟩
      · rintro ⟨p, h1, h2⟩
        by_cases z : p = n
        · rw [z] at h2; exact absurd h2 q
        · exact ⟨p, by omega, h2⟩
theorem drown_iff (hB : BM m) : ((lN (mkN (suchB m 1) 32) &&& (lN (mkN (suchB m 0) 32) ^^^ (-1 : Int64))) = 0) ↔ drN m (m.1 0 0) = true := by
  rw [and_not (mkN_lt _ _) (mkN_lt _ _), drN_iff]
  constructor
  · intro h p hp
    have b8 := (hB.2.2.2.2.2 p hp).2.2.2
    have := h (m.1 8 p) (by omega)
    rw [mkN_bit, mkN_bit, decide_eq_true (show m.1 8 p < 32 by omega), Bool.true_and, Bool.true_and] at this
    exact of_decide_eq_true (this ((trod_iff m (m.1 8 p)).mpr ⟨p, hp, rfl⟩))
  · intro h c hc
    rw [mkN_bit, mkN_bit, decide_eq_true hc, Bool.true_and, Bool.true_and]
    intro z
    obtain ⟨p, hp, e⟩ := (trod_iff m c).mp z
    have := h p hp
    rw [e] at this
    exact decide_eq_true this
theorem p_drowned (hd : d = b + 53) (hC : CM s (b + 1) 0 m) (hM : MM s d 0 m) (hB : BM m) : PO b d s (f_X3_drowned b) (f_X4_drowned d) := by
  refine p_search hd hC hM hB (L_X3_drowned_13 b) (fun i => drN (yearsS 0 m i) ((yearsS 0 m i).1 0 0)) 2 0 _ _ (fun n t => ?_) (fun n i t hi hMi => ?_) (fun i t f hi hMi => ?_) rfl (fun t ht => rfl)
  · show B_X3_drowned_13 _ b (nI 61) t = _
    unfold B_X3_drowned_13
    rw [if_pos out60]
  · show B_X3_drowned_13 (L_X3_drowned_13 b n) b (nI i) t = _
    have hb' := hB.years 0 i
    unfold B_X3_drowned_13
    rw [if_neg (in60 hi), c_trodCells hMi hb', cp_s, c_wetCells hMi hb', cp_s, nI_1]
    simp only [lg_cmp_eq, drown_iff hb']
  · rw [if_neg (by decide), if_neg (by decide), r_isDrowned hMi (hB.years 0 i), cp_s]
end COPIES
