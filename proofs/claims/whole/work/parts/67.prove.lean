/-! prove and judge -/
def rowV (m : MS) (p w : Nat) : Int32 := if w = 0 then nI (m.1 7 p) else if w = 1 then nI (m.1 3 (m.1 8 p)) else nI (mkN (lostB m) (m.1 0 0))
def wRow2 (b d : Nat) : Nat → Prop := fun k => wO b d k ∨ wRow b d k
def uRow (b d : Nat) : Nat → Nat → Prop := fun k j => (k = b ∧ j = 6) ∨ (k = d ∧ j = 15)
/-- is row i as it must be -/
def rowOk (m : MS) (p : Nat) (g : Nat → Int32) (i : Nat) : Bool := decide (g (3 * i) = rowV (yearsS 0 m (i + 1)) p 0 ∧ g (3 * i + 1) = rowV (yearsS 0 m (i + 1)) p 1 ∧ g (3 * i + 2) = rowV (yearsS 0 m (i + 1)) p 2)
def judN (T : Nat → Bool) : Nat → Nat → Int32
  | 0, _ => 0
  | k + 1, i => if T i = true then judN T k (i + 1) else nI (i + 1)
section PROVE
variable {s : St} {b d mu : Nat} {m : MS}
theorem c_partOfRow (h : CM s b mu m) (hb : BM m) {p w : Nat} (hp : p < m.1 0 0) (hw : w < 3) : f_X1_partOfRow b (nI p) (nI w) s = some (rowV m p w) := by
  have h8 := hb.1
  have b8 := (hb.2.2.2.2.2 p hp).2.2.2
  obtain ⟨h7a, h7b, h7c, h7d⟩ := h.2.2.2.2.2.2 p hp
  unfold f_X1_partOfRow rowV
  rcases (by omega : w = 0 ∨ w = 1 ∨ w = 2) with rfl | rfl | rfl
  · rw [if_pos (by decide), if_pos rfl, gd_n (show p < 8 by omega) (by omega), ix_n (by omega), h7c]
  · rw [if_neg (by decide), if_pos (by decide), if_neg (by decide), if_pos rfl, gd_n (show p < 8 by omega) (by omega), ix_n (n := p) (by omega), h7d, gd_n (show m.1 8 p < 32 by omega) (by omega), ix_n (by omega), (h.2.2.2.2.2.1 (m.1 8 p) (by omega)).2.1]
  · rw [if_neg (by decide), if_neg (by decide), if_neg (by decide), if_neg (by decide), c_lostPeople h hb, cp_s]
theorem r_mustBe (h : MM s d mu m) (hb : BM m) {p w : Nat} (hp : p < m.1 0 0) (hw : w < 3) : f_X4_mustBe d (nI p) (nI w) s = some (rowV m p w) := by
  have h8 := hb.1
  have b8 := (hb.2.2.2.2.2 p hp).2.2.2
  unfold f_X4_mustBe rowV
  rcases (by omega : w = 0 ∨ w = 1 ∨ w = 2) with rfl | rfl | rfl
  · rw [if_pos (by decide), if_pos rfl, r_g2 h h8 hp, cp_s]
  · rw [if_neg (by decide), if_pos (by decide), if_neg (by decide), if_pos rfl, r_g3 h h8 hp, cp_s, show (39 : Int32) + nI (m.1 8 p) = nI (39 + m.1 8 p) from nI_add 39 _, gd_n (show 39 + m.1 8 p < 103 by omega) (by omega), ix_n (by omega), (h.1.2.2.2.2.1 (m.1 8 p) (by omega)).2]
  · rw [if_neg (by decide), if_neg (by decide), if_neg (by decide), if_neg (by decide), r_lost h hb, cp_s]
theorem c_prIn (h : CM s (b + 10) mu m) (hb : BM m) {p i : Nat} (hp : p < m.1 0 0) (hi : i < 10) (a2 : Int32) (K : St → Option (Int32 × St)) : ∃ s', L_X3_prove_49 b (nI p) a2 (nI i) K FU (0 : Int32) s = K s' ∧ Fr (fun k => k = b + 31 + i) s s' ∧ ∀ w, w < 3 → gA s' (b + 31 + i) w = rowV m p w := by
  refine loop0 (fun n c s => L_X3_prove_49 b (nI p) a2 (nI i) K n c s) K 3 (by omega) (fun j t => Fr (fun k => k = b + 31 + i) s t ∧ ∀ w, w < j → gA t (b + 31 + i) w = rowV m p w) s ⟨Fr.rf, fun w hw => absurd hw (by omega)⟩ ?_ ?_
  · intro n t _
    show B_X3_prove_49 _ b (nI p) a2 (nI i) K (nI 3) t = _
    unfold B_X3_prove_49
    exact if_pos (nI_le (Nat.le_refl 3) (by omega))
  · intro n j t hj ⟨hF, hC⟩
    show ∃ s', B_X3_prove_49 (L_X3_prove_49 b (nI p) a2 (nI i) K n) b (nI p) a2 (nI i) K (nI j) t = L_X3_prove_49 b (nI p) a2 (nI i) K n (nI (j + 1)) s' ∧ _
    unfold B_X3_prove_49
    rw [if_neg (by rw [li_3]; exact nI_ge hj (by omega)), gd_n hi (by omega), c_partOfRow (h.fr hF (fun k q1 q2 => by omega)) hb hp hj, cp_s, gd_n hj (by omega), ix_n (n := i) (by omega), ix_n (n := j) (by omega), bn_e, nI_1]
    refine ⟨_, rfl, hF.tr (Fr.pA rfl), fun w hw => ?_⟩
    rw [gA_pA]
    by_cases q : w = j
    · rw [if_pos ⟨rfl, q⟩, q]
    · rw [if_neg (fun z => q z.2)]; exact hC w (by omega)
theorem r_prIn (h : MM s d mu m) (hb : BM m) {p i : Nat} (hp : p < m.1 0 0) (hi : i < 10) (a2 : Int32) (K : St → Option (Int32 × St)) : ∃ s', L_X4_prove_45 d (nI p) a2 (nI i) K FU (0 : Int32) s = K s' ∧ Fr (fun k => k = d + 7) s s' ∧ (∀ w, w < 3 → gA s' (d + 7) (3 * i + w) = rowV m p w) ∧ ∀ x, x < 3 * i → gA s' (d + 7) x = gA s (d + 7) x := by
  refine loop0 (fun n c s => L_X4_prove_45 d (nI p) a2 (nI i) K n c s) K 3 (by omega) (fun j t => Fr (fun k => k = d + 7) s t ∧ (∀ w, w < j → gA t (d + 7) (3 * i + w) = rowV m p w) ∧ ∀ x, x < 3 * i → gA t (d + 7) x = gA s (d + 7) x) s ⟨Fr.rf, fun w hw => absurd hw (by omega), fun _ _ => rfl⟩ ?_ ?_
  · intro n t _
    show B_X4_prove_45 _ d (nI p) a2 (nI i) K (nI 3) t = _
    unfold B_X4_prove_45
    exact if_pos (nI_le (Nat.le_refl 3) (by omega))
  · intro n j t hj ⟨hF, hC, hO⟩
    show ∃ s', B_X4_prove_45 (L_X4_prove_45 d (nI p) a2 (nI i) K n) d (nI p) a2 (nI i) K (nI j) t = L_X4_prove_45 d (nI p) a2 (nI i) K n (nI (j + 1)) s' ∧ _
    unfold B_X4_prove_45
    rw [if_neg (by rw [li_3]; exact nI_ge hj (by omega)), r_mustBe (h.fr hF (by omega) (by omega)) hb hp hj, cp_s, ix3, gd_n (show 3 * i + j < 30 by omega) (by omega), ix_n (by omega), bn_e, nI_1]
    refine ⟨_, rfl, hF.tr (Fr.pA rfl), fun w hw => ?_, fun x hx => ?_⟩
    · rw [gA_pA]
      by_cases q : w = j
      · rw [if_pos ⟨rfl, by omega⟩, q]
      · rw [if_neg (fun z => q (by omega))]; exact hC w (by omega)
    · rw [gA_pA, if_neg (by omega)]; exact hO x hx
theorem c_prove (hC : CM s (b + 1) 0 m) (hB : BM m) {p n : Nat} (hp : p < m.1 0 0) (hn : n ≤ 10) : ∃ s', (cw (f_X1_become (b + 10) (b + 1) s) fun s2 => L_X3_prove_34 b (nI p) (nI n) (fun (s5 : St) => bn (pF s5 b 6 (nI n)) fun s14 => some ((nI n), s14)) FU (0 : Int32) s2) = some (nI n, pF s' b 6 (nI n)) ∧ Fr (fun k => wM (b + 10) k ∨ (b + 31 ≤ k ∧ k ≤ b + 40)) s s' ∧ ∀ i, i < n → ∀ w, w < 3 → gA s' (b + 31 + i) w = rowV (yearsS 0 m (i + 1)) p w := by
  obtain ⟨s1, e1, f1, g1⟩ := c_become hC hB.1 (b := b + 10) (by omega)
  obtain ⟨s2, e2, q1, q2, q3⟩ := loop0 (fun r c s => L_X3_prove_34 b (nI p) (nI n) (fun (s5 : St) => bn (pF s5 b 6 (nI n)) fun s14 => some ((nI n), s14)) r c s) (fun (s5 : St) => bn (pF s5 b 6 (nI n)) fun s14 => some ((nI n), s14)) n (by omega) (fun i t => CM t (b + 10) 0 (yearsS 0 m i) ∧ Fr (fun k => wM (b + 10) k ∨ (b + 31 ≤ k ∧ k ≤ b + 40)) s t ∧ ∀ x, x < i → ∀ w, w < 3 → gA t (b + 31 + x) w = rowV (yearsS 0 m (x + 1)) p w) s1 ⟨g1, f1.wk (fun k q => Or.inl q), fun x hx => absurd hx (by omega)⟩ (by
    intro r t _
    show B_X3_prove_34 _ b (nI p) (nI n) _ (nI n) t = _
    unfold B_X3_prove_34
    exact if_pos (nI_le (Nat.le_refl n) (by omega))) (by
    intro r i t hi ⟨h1, h2, h3⟩
    show ∃ s', B_X3_prove_34 (L_X3_prove_34 b (nI p) (nI n) _ r) b (nI p) (nI n) _ (nI i) t = L_X3_prove_34 b (nI p) (nI n) _ r (nI (i + 1)) s' ∧ _
    obtain ⟨t1, e3, f3, g3⟩ := c_passYear h1 (hB.years 0 i) (by omega)
    obtain ⟨t2, e4, f4, g4⟩ := c_prIn (b := b) (m := yearsS 0 m (i + 1)) g3 (hB.years 0 (i + 1)) (p := p) (i := i) (by rw [years_0]; exact hp) (by omega) (nI n) (fun (s9 : St) => L_X3_prove_34 b (nI p) (nI n) (fun (s5 : St) => bn (pF s5 b 6 (nI n)) fun s14 => some ((nI n), s14)) r (nI i + 1) s9)
    refine ⟨t2, ?_, g3.fr f4 (fun k q1 q2 => by omega), (h2.tr (f3.wk (fun k q => Or.inl q))).tr (f4.wk (fun k q => Or.inr (by omega))), fun x hx w hw => ?_⟩
    · unfold B_X3_prove_34
      rw [if_neg (nI_ge hi (by omega)), e3, cw_s, e4, nI_1]
    · by_cases q : x = i
      · rw [q]; exact g4 w hw
      · rw [(f4 (b + 31 + x) (by omega)).2.1, (f3 (b + 31 + x) (by unfold wM; omega)).2.1]; exact h3 x (by omega) w hw)
  refine ⟨s2, ?_, q2, q3⟩
  rw [e1, cw_s]
  exact e2
theorem r_prove (hM : MM s d 0 m) (hB : BM m) {p n : Nat} (hp : p < m.1 0 0) (hn : n ≤ 10) : ∃ s', (cw (f_X4_keepAside d s) fun s3 => bn (pF s3 d 15 (nI n)) fun s4 => L_X4_prove_33 d (nI p) (nI n) (fun (s7 : St) => cw (f_X4_putBack d s7) fun s15 => some ((nI n), s15)) FU (0 : Int32) s4) = some (nI n, s') ∧ Fr2 (fun k => wQ d k ∨ k = d + 7) (fun k j => k = d ∧ j = 15) s s' ∧ gF s' d 15 = nI n ∧ MM s' d 0 m ∧ ∀ i, i < n → ∀ w, w < 3 → gA s' (d + 7) (3 * i + w) = rowV (yearsS 0 m (i + 1)) p w := by
  obtain ⟨s1, e1, f1, m1, a1⟩ := r_aside hM hB.1
  have m1' : MM (pF s1 d 15 (nI n)) d 0 m := ⟨m1.1, by rw [gF_pF, if_neg (by omega)]; exact m1.2⟩
  obtain ⟨s2, e2, q1, q2, q3⟩ := loop0 (fun r c s => L_X4_prove_33 d (nI p) (nI n) (fun (s7 : St) => cw (f_X4_putBack d s7) fun s15 => some ((nI n), s15)) r c s) (fun (s7 : St) => cw (f_X4_putBack d s7) fun s15 => some ((nI n), s15)) n (by omega) (fun i t => MM t d 0 (yearsS 0 m i) ∧ Fr (fun k => wR d k ∨ k = d + 7) (pF s1 d 15 (nI n)) t ∧ ∀ x, x < i → ∀ w, w < 3 → gA t (d + 7) (3 * x + w) = rowV (yearsS 0 m (x + 1)) p w) (pF s1 d 15 (nI n)) ⟨m1', Fr.rf, fun x hx => absurd hx (by omega)⟩ (by
    intro r t _
    show B_X4_prove_33 _ d (nI p) (nI n) _ (nI n) t = _
    unfold B_X4_prove_33
    exact if_pos (nI_le (Nat.le_refl n) (by omega))) (by
    intro r i t hi ⟨h1, h2, h3⟩
    show ∃ s', B_X4_prove_33 (L_X4_prove_33 d (nI p) (nI n) _ r) d (nI p) (nI n) _ (nI i) t = L_X4_prove_33 d (nI p) (nI n) _ r (nI (i + 1)) s' ∧ _
    obtain ⟨t1, e3, f3, g3⟩ := r_yearGoes h1 (hB.years 0 i) (by omega)
    obtain ⟨t2, e4, f4, g4, o4⟩ := r_prIn (d := d) (m := yearsS 0 m (i + 1)) g3 (hB.years 0 (i + 1)) (p := p) (i := i) (by rw [years_0]; exact hp) (by omega) (nI n) (fun (s11 : St) => L_X4_prove_33 d (nI p) (nI n) (fun (s7 : St) => cw (f_X4_putBack d s7) fun s15 => some ((nI n), s15)) r (nI i + 1) s11)
    refine ⟨t2, ?_, g3.fr f4 (by omega) (by omega), (h2.tr (f3.wk (fun k q => Or.inl q))).tr (f4.wk (fun k q => Or.inr q)), fun x hx w hw => ?_⟩
    · unfold B_X4_prove_33
      rw [if_neg (nI_ge hi (by omega)), e3, cw_s, e4, nI_1]
    · by_cases q : x = i
      · rw [q]; exact g4 w hw
      · rw [o4 _ (by omega), (f3 (d + 7) (by unfold wR; omega)).2.1]; exact h3 x (by omega) w hw)
  have a2 : AM s2 d m := by
    show RM (gA s2 (d + 3)) m
    rw [show gA s2 (d + 3) = gA s1 (d + 3) from funext (q2 (d + 3) (by unfold wR; omega)).2.1]; exact a1
  have mu2 : gF s2 d 4 = nI 0 := ((q2 d (by unfold wR; omega)).1 4).trans m1'.2
  obtain ⟨s3, e3, f3, m3⟩ := r_back a2 hB.1 mu2
  refine ⟨s3, ?_, ⟨fun k j hk hj => ?_, fun k hk => ?_⟩, ?_, m3, fun i hi w hw => ?_⟩
  · rw [e1, cw_s, bn_e]
    exact e2.trans (by rw [e3, cw_s])
  · have hk' : k ≠ d + 1 ∧ k ≠ d + 3 ∧ k ≠ d + 4 ∧ k ≠ d + 7 := by unfold wQ at hk; omega
    rw [(f3 k (by omega)).1 j, (q2 k (by unfold wR; omega)).1 j, gF_pF, if_neg hj, (f1 k (by omega)).1 j]
  · have hk' : k ≠ d + 1 ∧ k ≠ d + 3 ∧ k ≠ d + 4 ∧ k ≠ d + 7 := by unfold wQ at hk; omega
    exact ⟨fun j => by rw [(f3 k (by omega)).2.1 j, (q2 k (by unfold wR; omega)).2.1 j, gA_pF, (f1 k (by omega)).2.1 j], fun j => by rw [(f3 k (by omega)).2.2 j, (q2 k (by unfold wR; omega)).2.2 j, gL_pF, (f1 k (by omega)).2.2 j]⟩
  · rw [(f3 d (by omega)).1, (q2 d (by unfold wR; omega)).1, gF_pF, if_pos ⟨rfl, rfl⟩]
  · rw [(f3 (d + 7) (by omega)).2.1]; exact q3 i hi w hw
theorem p_prove (hd : d = b + 53) (hX : XR s b d) (hC : CM s (b + 1) 0 m) (hM : MM s d 0 m) (hB : BM m) (a1 a2 : Int32) : ∃ x s1 s2, f_X3_prove b a1 a2 s = some (x, s1) ∧ f_X4_prove d a1 a2 s1 = some (x, s2) ∧ XR s2 b d ∧ CM s2 (b + 1) 0 m ∧ MM s2 d 0 m ∧ Fr2 (wRow2 b d) (uRow b d) s s2 := by
  have h8 := hB.1
  have c1 := f_X3_prove.eq_1 b a1 a2 s
  rw [c_isPerson hC h8, cp_s] at c1
  have r1 : ∀ t, MM t d 0 m → f_X4_prove d a1 a2 t = _ := fun t ht => by unfold f_X4_prove; rw [r_isPerson ht h8, cp_s, r_inLo a2 1 10, cp_s]
  cases q1 : wp a1 (m.1 0 0)
  · rw [q1] at c1; exact ⟨-1, s, s, c1, by rw [r1 s hM, q1]; rfl, hX, hC, hM, Fr2.rf⟩
  obtain ⟨p, hp, rfl⟩ := wp_of q1 (by omega)
  have l1 : (a2 < (1 : Int32)) ↔ a2.toInt < 1 := by rw [Int32.lt_iff_toInt_lt]; rfl
  have l2 : (a2 ≤ (10 : Int32)) ↔ a2.toInt ≤ 10 := by rw [Int32.le_iff_toInt_le]; rfl
  have i1 : ((1 : Int64)).toInt = 1 := rfl
  have i2 : ((10 : Int64)).toInt = 10 := rfl
  rw [q1, if_neg bt_ne] at c1
  by_cases y : 1 ≤ a2.toInt ∧ a2.toInt ≤ 10
  · obtain ⟨n, hn⟩ : ∃ n : Nat, a2.toInt = n := ⟨a2.toInt.toNat, by omega⟩
    have e2 := nI_back hn (by omega)
    rw [if_neg (fun t => by have := l1.mp t; omega), if_pos (l2.mpr y.2), e2] at c1
    obtain ⟨s1, k1, f1, v1⟩ := c_prove hC hB hp (n := n) (by omega)
    rw [k1] at c1
    have F1 : Fr2 (wRow2 b d) (uRow b d) s (pF s1 b 6 (nI n)) := ((Fr.to2 f1).wk (fun k q => by unfold wRow2 wO wC wRow; unfold wM at q; omega) (fun k j q => q)).tr (Fr2.pF (Or.inl ⟨rfl, rfl⟩))
    have m1 : MM (pF s1 b 6 (nI n)) d 0 m := by
      have h1 := hM.fr f1 (by unfold wM; omega) (by unfold wM; omega)
      exact ⟨h1.1, by rw [gF_pF, if_neg (by omega)]; exact h1.2⟩
    obtain ⟨s2, k2, f2, z2, m2, v2⟩ := r_prove m1 hB hp (n := n) (by omega)
    have F2 : Fr2 (wRow2 b d) (uRow b d) (pF s1 b 6 (nI n)) s2 := f2.wk (fun k q => by unfold wRow2 wO wRow; unfold wQ at q ⊢; omega) (fun k j q => Or.inr q)
    have hC2 : CM s2 (b + 1) 0 m := by
      have h1 : CM (pF s1 b 6 (nI n)) (b + 1) 0 m := (hC.fr f1 (fun k q1 q2 => by unfold wM; omega)).fr2 (Fr2.pF (w := fun _ => False) (u := fun k j => k = b) rfl) (fun _ _ _ q => q) (fun j => by omega)
      exact h1.fr2 f2 (fun k q1 q2 => by unfold wQ; omega) (fun j => by omega)
    refine ⟨nI n, _, s2, by rw [e2]; exact c1, ?_, ⟨n, by omega, ?_, z2, fun i hi w hw => ?_⟩, hC2, m2, F1.tr F2⟩
    · rw [r1 _ m1, q1, if_neg bt_ne, i1, i2, decide_eq_true y, if_neg bt_ne, e2]; exact k2
    · rw [f2.1 b 6 (by unfold wQ; omega) (by omega), gF_pF, if_pos ⟨rfl, rfl⟩]
    · rw [v2 i hi w hw, (f2.2 (b + 31 + i) (by unfold wQ; omega)).1, gA_pF, v1 i hi w hw]
  · refine ⟨-1, s, s, ?_, by rw [r1 s hM, q1, if_neg bt_ne, i1, i2, decide_eq_false y]; rfl, hX, hC, hM, Fr2.rf⟩
    rw [c1]
    by_cases w : a2.toInt < 1
    · rw [if_pos (l1.mpr w)]
    · rw [if_neg (fun t => w (l1.mp t)), if_neg (fun t => by have := l2.mp t; omega)]
/-! judge -/
theorem c_jIn {t : St} (h : CM t (b + 10) mu m) (hb : BM m) {p i : Nat} (hp : p < m.1 0 0) (hi : i < 10) (g : Nat → Int32) (hg : ∀ w, w < 3 → gA t (b + 31 + i) w = g w) (K : Unit → Option (Int32 × St)) : ∀ n, L_X3_judge_40 b (nI p) (nI i) t K (n + 4) (0 : Int32) = if g 0 = rowV m p 0 ∧ g 1 = rowV m p 1 ∧ g 2 = rowV m p 2 then K () else some (nI (i + 1), t) := by
  have st : ∀ n w, w < 3 → L_X3_judge_40 b (nI p) (nI i) t K (n + 1) (nI w) = if g w = rowV m p w then L_X3_judge_40 b (nI p) (nI i) t K n (nI (w + 1)) else some (nI (i + 1), t) := by
    intro n w hw
    show B_X3_judge_40 (L_X3_judge_40 b (nI p) (nI i) t K n) b (nI p) (nI i) t K (nI w) = _
    unfold B_X3_judge_40
    rw [if_neg (by rw [li_3]; exact nI_ge hw (by omega)), gd_n hi (by omega), gd_n hw (by omega), c_partOfRow h hb hp hw, cp_s, ix_n (n := i) (by omega), ix_n (n := w) (by omega), hg w hw, nI_1, nI_1]
  intro n
  rw [li_0, show n + 4 = (n + 3) + 1 from rfl, st (n + 3) 0 (by omega), show n + 3 = (n + 2) + 1 from rfl, st (n + 2) 1 (by omega), show n + 2 = (n + 1) + 1 from rfl, st (n + 1) 2 (by omega)]
  have e3 : L_X3_judge_40 b (nI p) (nI i) t K (n + 1) (nI 3) = K () := by
    show B_X3_judge_40 (L_X3_judge_40 b (nI p) (nI i) t K n) b (nI p) (nI i) t K (nI 3) = _
    unfold B_X3_judge_40
    exact if_pos (nI_le (Nat.le_refl 3) (by omega))
  rw [e3]
  by_cases w0 : g 0 = rowV m p 0
  · rw [if_pos w0]
    by_cases w1 : g 1 = rowV m p 1
    · rw [if_pos w1]
      by_cases w2 : g 2 = rowV m p 2
      · rw [if_pos w2, if_pos ⟨w0, w1, w2⟩]
      · rw [if_neg w2, if_neg (fun z => w2 z.2.2)]
    · rw [if_neg w1, if_neg (fun z => w1 z.2.1)]
  · rw [if_neg w0, if_neg (fun z => w0 z.1)]
theorem r_jIn {t : St} (h : MM t d mu m) (hb : BM m) {p i : Nat} (hp : p < m.1 0 0) (hi : i < 10) (K : Int32 → Option (Int32 × St)) (x : Int32) : ∀ n, L_X4_judge_37 d (nI p) (nI i) t K (n + 4) x (0 : Int32) = K (if gA t (d + 7) (3 * i + 2) = rowV m p 2 then (if gA t (d + 7) (3 * i + 1) = rowV m p 1 then (if gA t (d + 7) (3 * i) = rowV m p 0 then x else nI (i + 1)) else nI (i + 1)) else nI (i + 1)) := by
  have st : ∀ n w x, w < 3 → L_X4_judge_37 d (nI p) (nI i) t K (n + 1) x (nI w) = L_X4_judge_37 d (nI p) (nI i) t K n (if gA t (d + 7) (3 * i + w) = rowV m p w then x else nI (i + 1)) (nI (w + 1)) := by
    intro n w x hw
    show B_X4_judge_37 (L_X4_judge_37 d (nI p) (nI i) t K n) d (nI p) (nI i) t K x (nI w) = _
    unfold B_X4_judge_37
    rw [if_neg (by rw [li_3]; exact nI_ge hw (by omega)), ix3, gd_n (show 3 * i + w < 30 by omega) (by omega), r_mustBe h hb hp hw, cp_s, ix_n (by omega), bn_e, nI_1, nI_1]
    dsimp only
    by_cases q : gA t (d + 7) (3 * i + w) = rowV m p w
    · rw [if_pos q, if_pos q]
    · rw [if_neg q, if_neg q]
  intro n
  rw [li_0, show n + 4 = (n + 3) + 1 from rfl, st (n + 3) 0 x (by omega), show n + 3 = (n + 2) + 1 from rfl, st (n + 2) 1 _ (by omega), show n + 2 = (n + 1) + 1 from rfl, st (n + 1) 2 _ (by omega), Nat.add_zero]
  show B_X4_judge_37 (L_X4_judge_37 d (nI p) (nI i) t K n) d (nI p) (nI i) t K _ (nI 3) = _
  unfold B_X4_judge_37
  exact if_pos (nI_le (Nat.le_refl 3) (by omega))
theorem p_judge (hd : d = b + 53) (hX : XR s b d) (hC : CM s (b + 1) 0 m) (hM : MM s d 0 m) (hB : BM m) (a1 : Int32) : PO b d s (f_X3_judge b a1) (f_X4_judge d a1) := by
  have h8 := hB.1
  have c1 := f_X3_judge.eq_1 b a1 s
  rw [c_isPerson hC h8, cp_s] at c1
  have r1 : ∀ t, MM t d 0 m → f_X4_judge d a1 t = _ := fun t ht => by unfold f_X4_judge; rw [r_isPerson ht h8, cp_s]
  cases q1 : wp a1 (m.1 0 0)
  · rw [q1] at c1; exact PO.no hC hM hB c1 (by rw [r1 s hM, q1]; rfl)
  obtain ⟨p, hp, rfl⟩ := wp_of q1 (by omega)
  obtain ⟨n, hn, x1, x2, x3⟩ := hX
  obtain ⟨s1, e1, f1, g1⟩ := c_become hC h8 (b := b + 10) (by omega)
  rw [q1, if_neg bt_ne, e1, cw_s] at c1
  obtain ⟨T, hT⟩ : ∃ T : Nat → Bool, T = rowOk m p (gA s (d + 7)) := ⟨_, rfl⟩
  have keyC : ∀ (k i r : Nat) (t : St), i + k = n → k < r → Fr (wM (b + 10)) s t → CM t (b + 10) 0 (yearsS 0 m i) → ∃ t', L_X3_judge_23 b (nI p) r (nI i) t = some (judN T k i, t') ∧ Fr (wM (b + 10)) s t' := by
    intro k
    induction k with
    | zero =>
      intro i r t hi hr hF hCt
      obtain ⟨r, rfl⟩ : ∃ j, r = j + 1 := ⟨r - 1, by omega⟩
      refine ⟨t, ?_, hF⟩
      show B_X3_judge_23 _ b (nI p) (nI i) t = _
      unfold B_X3_judge_23
      rw [(hF b (by unfold wM; omega)).1, x1, if_pos (nI_le (by omega) (by omega))]
      rfl
    | succ k ih =>
      intro i r t hi hr hF hCt
      obtain ⟨r, rfl⟩ : ∃ j, r = j + 1 := ⟨r - 1, by omega⟩
      obtain ⟨t1, e3, f3, g3⟩ := c_passYear hCt (hB.years 0 i) (by omega)
      have hF1 := hF.tr f3
      have eI := c_jIn (m := yearsS 0 m (i + 1)) g3 (hB.years 0 (i + 1)) (p := p) (i := i) (by rw [years_0]; exact hp) (by omega) (fun w => gA s (d + 7) (3 * i + w)) (fun w hw => by rw [(hF1 (b + 31 + i) (by unfold wM; omega)).2.1]; exact x3 i (by omega) w hw) (fun (_ : Unit) => L_X3_judge_23 b (nI p) r (nI i + 1) t1) 996
      have hTi : T i = true ↔ (gA s (d + 7) (3 * i + 0) = rowV (yearsS 0 m (i + 1)) p 0 ∧ gA s (d + 7) (3 * i + 1) = rowV (yearsS 0 m (i + 1)) p 1 ∧ gA s (d + 7) (3 * i + 2) = rowV (yearsS 0 m (i + 1)) p 2) := by rw [hT]; exact decide_eq_true_iff
      show ∃ t', B_X3_judge_23 (L_X3_judge_23 b (nI p) r) b (nI p) (nI i) t = some ((if T i = true then judN T k (i + 1) else nI (i + 1)), t') ∧ _
      unfold B_X3_judge_23
      rw [(hF b (by unfold wM; omega)).1, x1, if_neg (nI_ge (by omega) (by omega)), e3, cw_s, show FU = 996 + 4 from rfl, eI]
      by_cases q : T i = true
      · rw [if_pos q, if_pos (hTi.mp q), nI_1]
        exact ih (i + 1) r t1 (by omega) (by omega) hF1 g3
      · rw [if_neg q, if_neg (fun z => q (hTi.mpr z))]
        exact ⟨t1, rfl, hF1⟩
  obtain ⟨s2, e2, f2⟩ := keyC n 0 FU s1 (by omega) (by show n < 1000; omega) f1 g1
  rw [nI_0] at e2
  rw [e2] at c1
  refine PO.mk hd hM hB c1 (f2.wk (fun k q => by unfold wM at q; unfold wC; omega)) (hC.fr f2 (fun k q1 q2 => by unfold wM; omega)) (fun hM1 => ?_)
  obtain ⟨t1, e3, f3, m3, a3⟩ := r_aside hM1 h8
  have y2 : gF t1 d 15 = nI n := ((f3 d (by omega)).1 15).trans (((f2 d (by unfold wM; omega)).1 15).trans x2)
  have y3 : ∀ i, gA t1 (d + 7) i = gA s (d + 7) i := fun i => ((f3 (d + 7) (by omega)).2.1 i).trans ((f2 (d + 7) (by unfold wM; omega)).2.1 i)
  have keyR : ∀ (k i r : Nat) (t : St), i + k = n → k + 1 < r → Fr (wR d) t1 t → MM t d 0 (yearsS 0 m i) → ∃ t', L_X4_judge_18 d (nI p) (fun (e6 : Int32) (s7 : St) => cw (f_X4_putBack d s7) fun s16 => some (e6, s16)) r (0 : Int32) (nI i) t = (cw (f_X4_putBack d t') fun s16 => some (judN T k i, s16)) ∧ Fr (wR d) t1 t' := by
    intro k
    induction k with
    | zero =>
      intro i r t hi hr hF hMt
      obtain ⟨r, rfl⟩ : ∃ j, r = j + 1 := ⟨r - 1, by omega⟩
      refine ⟨t, ?_, hF⟩
      show B_X4_judge_18 _ d (nI p) _ (0 : Int32) (nI i) t = _
      unfold B_X4_judge_18
      rw [(hF d (by unfold wR; omega)).1, y2, if_pos (nI_le (by omega) (by omega))]
      rfl
    | succ k ih =>
      intro i r t hi hr hF hMt
      obtain ⟨r, rfl⟩ : ∃ j, r = j + 1 := ⟨r - 1, by omega⟩
      obtain ⟨t2, e4, f4, g4⟩ := r_yearGoes hMt (hB.years 0 i) (by omega)
      have hF2 := hF.tr f4
      have eg : ∀ x, gA t2 (d + 7) x = gA s (d + 7) x := fun x => ((hF2 (d + 7) (by unfold wR; omega)).2.1 x).trans (y3 x)
      have eI := r_jIn (m := yearsS 0 m (i + 1)) g4 (hB.years 0 (i + 1)) (p := p) (i := i) (by rw [years_0]; exact hp) (by omega) (fun (e11 : Int32) => L_X4_judge_18 d (nI p) (fun (e6 : Int32) (s7 : St) => cw (f_X4_putBack d s7) fun s16 => some (e6, s16)) r e11 (nI i + 1) t2) (0 : Int32) 996
      have hTi : T i = true ↔ (gA s (d + 7) (3 * i) = rowV (yearsS 0 m (i + 1)) p 0 ∧ gA s (d + 7) (3 * i + 1) = rowV (yearsS 0 m (i + 1)) p 1 ∧ gA s (d + 7) (3 * i + 2) = rowV (yearsS 0 m (i + 1)) p 2) := by rw [hT]; exact decide_eq_true_iff
      have eV : (if gA t2 (d + 7) (3 * i + 2) = rowV (yearsS 0 m (i + 1)) p 2 then (if gA t2 (d + 7) (3 * i + 1) = rowV (yearsS 0 m (i + 1)) p 1 then (if gA t2 (d + 7) (3 * i) = rowV (yearsS 0 m (i + 1)) p 0 then (0 : Int32) else nI (i + 1)) else nI (i + 1)) else nI (i + 1)) = if T i = true then (0 : Int32) else nI (i + 1) := by
        rw [eg, eg, eg]
        by_cases q : T i = true
        · obtain ⟨w0, w1, w2⟩ := hTi.mp q
          rw [if_pos w2, if_pos w1, if_pos w0, if_pos q]
        · rw [if_neg q]
          by_cases w2 : gA s (d + 7) (3 * i + 2) = rowV (yearsS 0 m (i + 1)) p 2
          · rw [if_pos w2]
            by_cases w1 : gA s (d + 7) (3 * i + 1) = rowV (yearsS 0 m (i + 1)) p 1
            · rw [if_pos w1, if_neg (fun w0 => q (hTi.mpr ⟨w0, w1, w2⟩))]
            · rw [if_neg w1]
          · rw [if_neg w2]
      show ∃ t', B_X4_judge_18 (L_X4_judge_18 d (nI p) _ r) d (nI p) _ (0 : Int32) (nI i) t = (cw (f_X4_putBack d t') fun s16 => some ((if T i = true then judN T k (i + 1) else nI (i + 1)), s16)) ∧ _
      unfold B_X4_judge_18
      rw [(hF d (by unfold wR; omega)).1, y2, if_neg (nI_ge (by omega) (by omega)), if_pos rfl, e4, cw_s, show FU = 996 + 4 from rfl, eI, eV, nI_1]
      by_cases q : T i = true
      · rw [if_pos q, if_pos q]
        exact ih (i + 1) r t2 (by omega) (by omega) hF2 g4
      · rw [if_neg q, if_neg q]
        obtain ⟨r, rfl⟩ : ∃ j, r = j + 1 := ⟨r - 1, by omega⟩
        refine ⟨t2, ?_, hF2⟩
        show B_X4_judge_18 _ d (nI p) _ (nI (i + 1)) (nI (i + 1)) t2 = _
        unfold B_X4_judge_18
        rw [if_neg (nI_ne0 (by omega) (by omega))]
        split <;> rfl
  obtain ⟨t2, e4, f4⟩ := keyR n 0 FU t1 (by omega) (by show n + 1 < 1000; omega) Fr.rf m3
  rw [nI_0] at e4
  obtain ⟨t3, e5, f5, g5⟩ := r_back (a3.fr f4) h8 (((f4 d (by unfold wR; omega)).1 4).trans m3.2)
  refine ⟨t3, ?_, ((f3.wk (fun k q => Or.inr (Or.inl q))).tr (f4.wk (fun k q => by unfold wR at q; omega))).tr (f5.wk (fun k q => Or.inl q)), g5⟩
  rw [r1 _ hM1, q1, if_neg bt_ne, e3, cw_s, e4, e5, cw_s]
end PROVE
