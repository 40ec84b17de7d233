/-! moor on both sides -/
theorem low5 (c : Nat) : lowS (gI 2) c = c := by
  have st : ∀ b ok o, lowStep (gI 2) b ok o = b := fun b ok o => if_neg (fun w => Nat.lt_irrefl 5 w.2)
  unfold lowS
  rw [st, st, st, st]
theorem st2_n : ∀ i, i < 4 → stV 2 i = nI (gI 1 i) := by decide +kernel
section MOOR2
variable {s : St} {a b d L : Nat} {T : Nat → Nat} {m : MS}
theorem c_clear (s : St) : ∃ s', f_X1_clear a s = some s' ∧ CM s' a 0 (gI, 0, gF s a 2) ∧ Fr (wM a) s s' := by
  obtain ⟨s1, e1, p1, p2⟩ := loop0 (fun r c s => L_X1_clear_2 a (fun (s3 : St) => L_X1_clear_26 a (fun (s9 : St) => bn (pF s9 a 1 (0 : Int32)) fun s16 => bn (pF s16 a 6 (0 : Int32)) fun s17 => bn (pF s17 a 11 (0 : Int32)) fun s18 => some s18) FU (0 : Int32) s3) r c s) (fun (s3 : St) => L_X1_clear_26 a (fun (s9 : St) => bn (pF s9 a 1 (0 : Int32)) fun s16 => bn (pF s16 a 6 (0 : Int32)) fun s17 => bn (pF s17 a 11 (0 : Int32)) fun s18 => some s18) FU (0 : Int32) s3) 4 (by omega) (fun i t => Fr (fun k => k = a + 1) s t ∧ ∀ j, j < i → gA t (a + 1) j = nI (gI 1 j)) s ⟨Fr.rf, fun j hj => absurd hj (by omega)⟩ (by
    intro r t _
    show B_X1_clear_2 _ a _ (nI 4) t = _
    unfold B_X1_clear_2
    exact if_pos (nI_le (Nat.le_refl 4) (by omega))) (by
    intro r i t hi ⟨h1, h2⟩
    show ∃ s', B_X1_clear_2 (L_X1_clear_2 a _ r) a _ (nI i) t = L_X1_clear_2 a _ r (nI (i + 1)) s' ∧ _
    unfold B_X1_clear_2
    rw [if_neg (by rw [li_4]; exact nI_ge hi (by omega)), gd_n hi (by omega), gd_n hi (by omega), ix_n (by omega), bn_e, nI_1, st2_n i hi]
    refine ⟨_, rfl, h1.tr (Fr.pA rfl), fun j hj => ?_⟩
    rw [gA_pA]
    by_cases q : j = i
    · rw [if_pos ⟨rfl, q⟩, q]
    · rw [if_neg (fun z => q z.2)]; exact h2 j (by omega))
  obtain ⟨s2, e2, q1, q2⟩ := loop0 (fun r c s => L_X1_clear_26 a (fun (s9 : St) => bn (pF s9 a 1 (0 : Int32)) fun s16 => bn (pF s16 a 6 (0 : Int32)) fun s17 => bn (pF s17 a 11 (0 : Int32)) fun s18 => some s18) r c s) (fun (s9 : St) => bn (pF s9 a 1 (0 : Int32)) fun s16 => bn (pF s16 a 6 (0 : Int32)) fun s17 => bn (pF s17 a 11 (0 : Int32)) fun s18 => some s18) 32 (by omega) (fun i t => Fr (fun k => k = a + 2 ∨ k = a + 3 ∨ k = a + 4) s1 t ∧ ∀ j, j < i → gA t (a + 2) j = 5 ∧ gA t (a + 3) j = 0 ∧ gA t (a + 4) j = -1) s1 ⟨Fr.rf, fun j hj => absurd hj (by omega)⟩ (by
    intro r t _
    show B_X1_clear_26 _ a _ (nI 32) t = _
    unfold B_X1_clear_26
    exact if_pos (nI_le (Nat.le_refl 32) (by omega))) (by
    intro r i t hi ⟨h1, h2⟩
    show ∃ s', B_X1_clear_26 (L_X1_clear_26 a _ r) a _ (nI i) t = L_X1_clear_26 a _ r (nI (i + 1)) s' ∧ _
    unfold B_X1_clear_26
    rw [if_neg (by rw [li_32]; exact nI_ge hi (by omega)), gd_n hi (by omega), ix_n (by omega), bn_e, gd_n hi (by omega), bn_e, gd_n hi (by omega), bn_e, nI_1]
    refine ⟨_, rfl, ((h1.tr (Fr.pA (Or.inl rfl))).tr (Fr.pA (Or.inr (Or.inl rfl)))).tr (Fr.pA (Or.inr (Or.inr rfl))), fun j hj => ?_⟩
    by_cases q : j = i
    · subst q
      refine ⟨?_, ?_, ?_⟩
      · rw [gA_pA, if_neg (by omega), gA_pA, if_neg (by omega), gA_pA, if_pos ⟨rfl, rfl⟩]
      · rw [gA_pA, if_neg (by omega), gA_pA, if_pos ⟨rfl, rfl⟩]
      · rw [gA_pA, if_pos ⟨rfl, rfl⟩]
    · obtain ⟨x1, x2, x3⟩ := h2 j (by omega)
      refine ⟨?_, ?_, ?_⟩
      · rw [gA_pA, if_neg (by omega), gA_pA, if_neg (by omega), gA_pA, if_neg (by omega)]; exact x1
      · rw [gA_pA, if_neg (by omega), gA_pA, if_neg (by omega), gA_pA, if_neg (by omega)]; exact x2
      · rw [gA_pA, if_neg (by omega), gA_pA, if_neg (by omega), gA_pA, if_neg (by omega)]; exact x3)
  have F2 : Fr (wM a) s s2 := (p1.wk (fun k q => by unfold wM; omega)).tr (q1.wk (fun k q => by unfold wM; omega))
  refine ⟨pF (pF (pF s2 a 1 0) a 6 0) a 11 0, ?_, ⟨?_, ?_, ?_, ?_, fun i hi => ?_, fun c hc => ?_, fun p hp => ?_⟩, ((F2.tr (Fr.pF (by unfold wM; omega))).tr (Fr.pF (by unfold wM; omega))).tr (Fr.pF (by unfold wM; omega))⟩
  · unfold f_X1_clear
    exact e1.trans (e2.trans rfl)
  · repeat rw [gF_pF]
    rw [if_neg (by omega), if_neg (by omega), if_pos ⟨rfl, rfl⟩]
  · repeat rw [gF_pF]
    rw [if_neg (by omega), if_neg (by omega), if_neg (by omega), (q1 a (by omega)).1, (p1 a (by omega)).1]
  · repeat rw [gF_pF]
    rw [if_neg (by omega), if_pos ⟨rfl, rfl⟩]; rfl
  · repeat rw [gF_pF]
    rw [if_pos ⟨rfl, rfl⟩]; rfl
  · show gA s2 (a + 1) i = _
    rw [(q1 (a + 1) (by omega)).2.1]; exact p2 i hi
  · obtain ⟨x1, x2, x3⟩ := q2 c hc
    refine ⟨x1, x2, ?_⟩
    show gA s2 (a + 4) c = lowI (gI 2) c (-1)
    unfold lowI
    rw [low5, if_pos rfl]; exact x3
  · have : p < 0 := hp
    omega
theorem r_firstRow (h : MM s d 0 m) : ∃ s', f_X4_first d s = some s' ∧ MM s' d 0 (gI, 0, m.2.2) ∧ Fr (fun k => k = d + 1) s s' := by
  obtain ⟨K, hK⟩ : ∃ K : St → Option St, K = fun (s4 : St) => bn (pA s4 (d + 1) 0 (2 : Int32)) fun s10 => bn (pA s10 (d + 1) 1 (3 : Int32)) fun s11 => bn (pA s11 (d + 1) 2 (20 : Int32)) fun s12 => bn (pA s12 (d + 1) 3 (20 : Int32)) fun s13 => bn (pA s13 (d + 1) 6 m.2.2) fun s14 => some s14 := ⟨_, rfl⟩
  obtain ⟨s1, e1, p1, p2⟩ := loop0 (fun r c s => L_X4_first_10 d m.2.2 K r c s) K 103 (by omega) (fun i t => Fr (fun k => k = d + 1) s t ∧ ∀ j, j < i → gA t (d + 1) j = if 7 ≤ j ∧ j ≤ 38 then 5 else 0) s ⟨Fr.rf, fun j hj => absurd hj (by omega)⟩ (by
    intro r t _
    show B_X4_first_10 _ d m.2.2 K (nI 103) t = _
    unfold B_X4_first_10
    exact if_pos (nI_le (Nat.le_refl 103) (by omega))) (by
    intro r i t hi ⟨h1, h2⟩
    show ∃ s', B_X4_first_10 (L_X4_first_10 d m.2.2 K r) d m.2.2 K (nI i) t = L_X4_first_10 d m.2.2 K r (nI (i + 1)) s' ∧ _
    unfold B_X4_first_10
    rw [if_neg (by rw [li_103]; exact nI_ge hi (by omega)), r_inLo, cp_s, nI_toInt (by omega), show (7 : Int64).toInt = 7 from rfl, show (38 : Int64).toInt = 38 from rfl, bn_e]
    simp only [gd_n hi (show 103 ≤ 5000 by omega), ix_n (show i < 2 ^ 31 by omega), bn_e, nI_1]
    refine ⟨pA t (d + 1) i (if 7 ≤ i ∧ i ≤ 38 then 5 else 0), ?_, h1.tr (Fr.pA rfl), fun j hj => ?_⟩
    · by_cases y : 7 ≤ i ∧ i ≤ 38
      · rw [decide_eq_true (show (7 : Int) ≤ (i : Int) ∧ (i : Int) ≤ 38 by omega), if_neg bt_ne, if_pos y]
      · rw [decide_eq_false (show ¬ ((7 : Int) ≤ (i : Int) ∧ (i : Int) ≤ 38) by omega), if_pos bf_eq, if_neg y]
    · rw [gA_pA]
      by_cases q : j = i
      · rw [if_pos ⟨rfl, q⟩, q]
      · rw [if_neg (fun z => q z.2)]; exact h2 j (by omega))
  obtain ⟨s2, hs2⟩ : ∃ s2, s2 = pA (pA (pA (pA (pA s1 (d + 1) 0 (2 : Int32)) (d + 1) 1 (3 : Int32)) (d + 1) 2 (20 : Int32)) (d + 1) 3 (20 : Int32)) (d + 1) 6 m.2.2 := ⟨_, rfl⟩
  have F2 : Fr (fun k => k = d + 1) s s2 := by rw [hs2]; exact ((((p1.tr (Fr.pA rfl)).tr (Fr.pA rfl)).tr (Fr.pA rfl)).tr (Fr.pA rfl)).tr (Fr.pA rfl)
  have hi : ∀ j, j < 103 → 4 ≤ j → j ≠ 6 → gA s2 (d + 1) j = if 7 ≤ j ∧ j ≤ 38 then 5 else 0 := by
    intro j h1 h2 h3
    rw [hs2]
    repeat rw [gA_pA]
    rw [if_neg (by omega), if_neg (by omega), if_neg (by omega), if_neg (by omega), if_neg (by omega)]
    exact p2 j h1
  refine ⟨s2, ?_, ⟨⟨?_, ?_, ?_, fun i hi4 => ?_, fun c hc => ⟨?_, ?_⟩, fun p hp => ?_⟩, ?_⟩, F2⟩
  · unfold f_X4_first
    rw [bn_e, h.1.2.1, ← hK]
    refine e1.trans ?_
    rw [hK, hs2]
    rfl
  · rw [hi 4 (by omega) (by omega) (by omega), if_neg (by omega)]
  · rw [hs2, gA_pA, if_pos ⟨rfl, rfl⟩]
  · rw [hi 5 (by omega) (by omega) (by omega), if_neg (by omega)]; rfl
  · rw [hs2]
    repeat rw [gA_pA]
    rcases (by omega : i = 0 ∨ i = 1 ∨ i = 2 ∨ i = 3) with rfl | rfl | rfl | rfl
    · rw [if_neg (by omega), if_neg (by omega), if_neg (by omega), if_neg (by omega), if_pos ⟨rfl, rfl⟩]; rfl
    · rw [if_neg (by omega), if_neg (by omega), if_neg (by omega), if_pos ⟨rfl, rfl⟩]; rfl
    · rw [if_neg (by omega), if_neg (by omega), if_pos ⟨rfl, rfl⟩]; rfl
    · rw [if_neg (by omega), if_pos ⟨rfl, rfl⟩]; rfl
  · rw [hi (7 + c) (by omega) (by omega) (by omega), if_pos (by omega)]; rfl
  · rw [hi (39 + c) (by omega) (by omega) (by omega), if_neg (by omega)]; rfl
  · have : p < 0 := hp
    omega
  · rw [(F2 d (by omega)).1]; exact h.2
theorem r_readsAll (hW : XW s d) (h7 : gF s d 7 = nI L) (hL : L ≤ 200) (hT : ∀ i, i < L → T i < 256 ∧ gA s (d + 5) i = nI (T i)) {g0 : MS} {ap : Bool} {z : Int32} (hM : MM s d 0 (if ap = true then (gI, 0, z) else g0)) : ∃ x s', f_X4_readsAll d (bI ap) s = some (x, s') ∧ (((cAll T L 200 (sk T L 0, none) (gI, 0, z)).1.2 = none ∧ x = 1 ∧ MM s' d 0 (if ap = true then (cAll T L 200 (sk T L 0, none) (gI, 0, z)).2 else g0)) ∨ (∃ f, (cAll T L 200 (sk T L 0, none) (gI, 0, z)).1.2 = some f ∧ x = 0 ∧ gF s' d 9 = nI f ∧ (ap = false → MM s' d 0 g0))) ∧ FrQ d s s' := by
  have r0 : RT (pF s d 8 (nI 0)) d L T 0 := ⟨by rw [gF_pF, if_neg (by omega)]; exact h7, by rw [gF_pF, if_pos ⟨rfl, rfl⟩], by omega, hL, hT, hW⟩
  have f0 : FrN d s (pF s d 8 (nI 0)) := f_N (by omega) (by omega)
  obtain ⟨x, s', e, h, f⟩ := r_allLoop 200 FU (sk T L 0) 0 (gI, 0, z) (pF s d 8 (nI 0)) (by omega) (by show 201 < 1000; omega) (BM.I z) rfl r0 (hM.n f0)
  refine ⟨x, s', ?_, h, f0.q.t f⟩
  unfold f_X4_readsAll
  rw [bn_e]
  exact e
def uMoor (b d : Nat) : Nat → Nat → Prop := fun k j => (k = b ∧ j = 6) ∨ (k = b + 28 ∧ 1 ≤ j ∧ j ≤ 3) ∨ (k = d ∧ 7 ≤ j ∧ j ≤ 15)
theorem XW.fr2 {w : Nat → Prop} {u : Nat → Nat → Prop} {t : St} (h : XW s d) (f : Fr2 w u s t) (h1 : ¬ w (d + 6)) : XW t d := fun k hk c hc => ((f.2 (d + 6) h1).1 _).trans (h k hk c hc)
theorem p_moor (hd : d = b + 53) (hX : XT s b d) (hR : XR s b d) (hW : XW s d) (hC : CM s (b + 1) 0 m) (hM : MM s d 0 m) (hB : BM m) : ∃ x s1 s2 m', f_X3_moor b s = some (x, s1) ∧ f_X4_moor d s1 = some (x, s2) ∧ CM s2 (b + 1) 0 m' ∧ MM s2 d 0 m' ∧ BM m' ∧ XT s2 b d ∧ XR s2 b d ∧ Fr2 (wO b d) (uMoor b d) s s2 := by
  obtain ⟨L, T, hL, t1, t2, t3⟩ := hX
  obtain ⟨s1, e1, C1, f1⟩ := c_clear (a := b + 10) s
  have t1' : gF s1 (b + 28) 1 = nI L := ((f1 (b + 28) (by unfold wM; omega)).1 1).trans t1
  obtain ⟨s2, e2, R2, f2⟩ := c_readInto (a := b + 10) (b := b + 28) (L := L) (T := T) (by omega) t1' hL (fun i hi => ⟨(t3 i hi).1, ((f1 (b + 28 + 1) (by unfold wM; omega)).2.1 i).trans (t3 i hi).2.1⟩) C1 (BM.I _)
  obtain ⟨zc, hzc⟩ : ∃ zc, zc = gF s (b + 10) 2 := ⟨_, rfl⟩
  rw [← hzc] at C1 e2 R2
  have F2 : Fr2 (wO b d) (uMoor b d) s (pF s2 (b + 28) 1 0) := (((f1.to2).wk (fun k q => by unfold wO wC; unfold wM at q; omega) (fun k j q => q)).tr (Fr2.wk f2 (fun k q => by unfold wO wC; unfold wM at q; omega) (fun k j q => Or.inr (Or.inl ⟨q.1, by omega, by omega⟩)))).tr (Fr2.pF (Or.inr (Or.inl ⟨rfl, by omega, by omega⟩)))
  have F2a : Fr2 (wM (b + 10)) (uMoor b d) s (pF s2 (b + 28) 1 0) := (f1.to2.tr (Fr2.wk f2 (fun k q => q) (fun k j q => Or.inr (Or.inl ⟨q.1, by omega, by omega⟩)))).tr (Fr2.pF (Or.inr (Or.inl ⟨rfl, by omega, by omega⟩)))
  have F2b : Fr2 (wM (b + 10)) (fun k j => k = b + 28) s (pF s2 (b + 28) 1 0) := (f1.to2.tr (Fr2.wk f2 (fun k q => q) (fun k j q => q.1))).tr (Fr2.pF rfl)
  have l0 : gF (pF s2 (b + 28) 1 0) (b + 28) 1 = 0 := by rw [gF_pF, if_pos ⟨rfl, rfl⟩]
  have C4 : CM (pF s2 (b + 28) 1 0) (b + 1) 0 m := hC.fr2 F2b (fun k q1 q2 => by unfold wM; omega) (fun j => by omega)
  have M4 : MM (pF s2 (b + 28) 1 0) d 0 m := hM.fr2 F2b (by unfold wM; omega) (by unfold wM; omega) (by omega)
  have c1 := f_X3_moor.eq_1 b s
  rw [e1, cw_s, e2, cb_s, bn_e] at c1
  -- the reference, from any state like this
  have ref : ∀ t : St, Fr2 (fun k => b + 1 ≤ k ∧ k ≤ b + 18) (fun k j => k = b ∨ k = b + 28) s t → ∃ x t', f_X4_moor d t = some (x, t') ∧ gF t' d 7 = 0 ∧ (((cAll T L 200 (sk T L 0, none) (gI, 0, m.2.2)).1.2 = none ∧ x = nI ((cAll T L 200 (sk T L 0, none) (gI, 0, m.2.2)).2.1 0 0) ∧ MM t' d 0 (cAll T L 200 (sk T L 0, none) (gI, 0, m.2.2)).2 ∧ gF t' d 15 = 0) ∨ (∃ f, (cAll T L 200 (sk T L 0, none) (gI, 0, m.2.2)).1.2 = some f ∧ x = -100 - nI f ∧ MM t' d 0 m ∧ gF t' d 15 = gF t d 15)) ∧ Fr2 (fun k => k = d + 1) (fun k j => k = d ∧ (7 ≤ j ∧ j ≤ 15)) t t' := by
    intro t ft
    have mt : MM t d 0 m := hM.fr2 ft (by omega) (by omega) (by omega)
    have wt : XW t d := hW.fr2 ft (by omega)
    have t7 : gF t d 7 = nI L := (ft.1 d 7 (by omega) (by omega)).trans t2
    have tT : ∀ i, i < L → T i < 256 ∧ gA t (d + 5) i = nI (T i) := fun i hi => ⟨(t3 i hi).1, ((ft.2 (d + 5) (by omega)).1 i).trans (t3 i hi).2.2⟩
    obtain ⟨x, u1, k1, h1, g1⟩ := r_readsAll wt t7 hL tT (ap := false) (z := m.2.2) (g0 := m) (by rw [if_neg Bool.false_ne_true]; exact mt)
    have r1 := f_X4_moor.eq_1 d t
    rw [show f_X4_readsAll d (0 : Int32) t = some (x, u1) from k1, cb_s, bn_e, bn_e] at r1
    dsimp only at r1
    have G1 : Fr2 (fun k => k = d + 1) (fun k j => k = d ∧ (7 ≤ j ∧ j ≤ 15)) t u1 := Fr2.wk g1 (fun k q => q) (fun k j q => ⟨q.1, by omega, by omega⟩)
    rcases h1 with ⟨h1, rfl, h3⟩ | ⟨f, h1, rfl, h3, h4⟩
    · rw [if_neg Bool.false_ne_true] at h3
      rw [if_neg (by decide)] at r1
      obtain ⟨u2, k2, m2, g2⟩ := r_firstRow h3
      have G2 : Fr2 (fun k => k = d + 1) (fun k j => k = d ∧ (7 ≤ j ∧ j ≤ 15)) t u2 := G1.tr g2.to2
      have b7 : gF u2 d 7 = nI L := by rw [(g2 d (by omega)).1, g1.1 d 7 (by omega) (by omega)]; exact t7
      obtain ⟨x2, u3, k3, h5, g3⟩ := r_readsAll (L := L) (T := T) (wt.fr2 G2 (by omega)) b7 hL (fun i hi => ⟨(tT i hi).1, ((G2.2 (d + 5) (by omega)).1 i).trans (tT i hi).2⟩) (ap := true) (z := m.2.2) (g0 := m) (by rw [if_pos rfl]; exact m2)
      rw [k2, cw_s, show f_X4_readsAll d (1 : Int32) u2 = some (x2, u3) from k3, cb_s, bn_e, bn_e] at r1
      rcases h5 with ⟨h5, rfl, h6⟩ | ⟨f, h5, _⟩
      · rw [if_pos rfl] at h6
        rw [if_neg (by decide)] at r1
        have G3 : Fr2 (fun k => k = d + 1) (fun k j => k = d ∧ (7 ≤ j ∧ j ≤ 15)) t (pF (pF u3 d 15 0) d 7 0) := ((G2.tr (Fr2.wk g3 (fun k q => q) (fun k j q => ⟨q.1, by omega, by omega⟩))).tr (Fr2.pF ⟨rfl, by omega, by omega⟩)).tr (Fr2.pF ⟨rfl, by omega, by omega⟩)
        have m3 : MM (pF (pF u3 d 15 0) d 7 0) d 0 (cAll T L 200 (sk T L 0, none) (gI, 0, m.2.2)).2 := ⟨h6.1, by rw [gF_pF, if_neg (by omega), gF_pF, if_neg (by omega)]; exact h6.2⟩
        refine ⟨_, _, r1, by rw [gF_pF, if_pos ⟨rfl, rfl⟩], Or.inl ⟨h1, m3.1.2.2.1, m3, by rw [gF_pF, if_neg (by omega), gF_pF, if_pos ⟨rfl, rfl⟩]⟩, G3⟩
      · rw [h1] at h5; cases h5
    · have h4' := h4 rfl
      rw [if_pos rfl, bn_e, if_pos rfl] at r1
      refine ⟨_, _, r1, by rw [gF_pF, if_pos ⟨rfl, rfl⟩], Or.inr ⟨f, h1, by rw [h3], ⟨h4'.1, by rw [gF_pF, if_neg (by omega)]; exact h4'.2⟩, by rw [gF_pF, if_neg (by omega), g1.1 d 15 (by omega) (by omega)]⟩, G1.tr (Fr2.pF ⟨rfl, by omega, by omega⟩)⟩
  have ez : cAll T L 200 (sk T L 0, none) (gI, 0, m.2.2) = ((cAll T L 200 (sk T L 0, none) (gI, 0, zc)).1, wz m.2.2 (cAll T L 200 (sk T L 0, none) (gI, 0, zc)).2) := cAll_z m.2.2 200 (sk T L 0, none) (gI, 0, zc)
  rw [ez] at ref
  dsimp only at ref
  have kW : ∀ {k j : Nat}, (k = d ∧ (7 ≤ j ∧ j ≤ 15)) → uMoor b d k j := fun q => Or.inr (Or.inr q)
  cases hf : (cAll T L 200 (sk T L 0, none) (gI, 0, zc)).1.2 with
  | some f =>
    have hfl := R2.1.2.2.2.2.2.1 f hf
    rw [hf, show flI (some f) = nI f from rfl, if_neg (nI_pos (by omega))] at c1
    obtain ⟨x, t', k, z7, h, g⟩ := ref _ (F2b.wk (fun k q => by unfold wM at q; omega) (fun k j q => Or.inr q))
    rcases h with ⟨h, _⟩ | ⟨f', h, rfl, h3, h4⟩
    · rw [hf] at h; cases h
    · rw [hf] at h
      cases h
      refine ⟨_, _, t', m, c1, k, C4.fr2 g (fun k q1 q2 => by omega) (fun j => by omega), h3, hB, ⟨0, T, by omega, ?_, z7.trans nI_0.symm, fun i hi => absurd hi (by omega)⟩, ?_, F2.tr (g.wk (fun k q => Or.inr (Or.inl q)) (fun k j q => kW q))⟩
      · rw [g.1 (b + 28) 1 (by omega) (by omega)]; exact l0
      · exact (hR.fr2 F2b (fun k q1 q2 => by unfold wM; omega) (by unfold wM; omega) (by unfold wM; omega) (by unfold wM; omega) (by omega) (by omega)).fr2 (w := fun k => k = d + 1) (u := fun k j => k = d ∧ 7 ≤ j ∧ j ≤ 14) ⟨fun k j hk hj => by
          by_cases q : k = d ∧ j = 15
          · rw [q.1, q.2]; exact h4
          · exact g.1 k j hk (by omega), g.2⟩ (fun k q1 q2 => by omega) (by omega) (by omega) (by omega) (by omega) (by omega)
  | none =>
    rw [hf, show flI none = -1 from rfl, if_pos (by decide), bn_e, (show gF (pF s2 (b + 28) 1 0) (b + 1) 2 = m.2.2 from C4.2.1)] at c1
    obtain ⟨m', hm'⟩ : ∃ m', m' = wz m.2.2 (cAll T L 200 (sk T L 0, none) (gI, 0, zc)).2 := ⟨_, rfl⟩
    have B' : BM m' := by rw [hm']; exact cAll_B 200 (sk T L 0, none) (gI, 0, zc) (BM.I zc)
    have C5 : CM (pF (pF s2 (b + 28) 1 0) (b + 10) 2 m.2.2) (b + 10) 0 m' := by
      obtain ⟨h1, h2, h3, h4, h5, h6, h7⟩ := R2.2.1
      rw [hm']
      refine ⟨?_, ?_, ?_, ?_, h5, h6, h7⟩
      · rw [gF_pF, if_neg (by omega), gF_pF, if_neg (by omega)]; exact h1
      · rw [gF_pF, if_pos ⟨rfl, rfl⟩]; rfl
      · rw [gF_pF, if_neg (by omega), gF_pF, if_neg (by omega)]; exact h3
      · rw [gF_pF, if_neg (by omega), gF_pF, if_neg (by omega)]; exact h4
    obtain ⟨s6, e6, f6, C6⟩ := c_become' C5 B'.1 (b := b + 1) (by omega)
    rw [e6, cw_s, bn_e] at c1
    have F5 : Fr (wM (b + 10)) (pF s2 (b + 28) 1 0) (pF (pF s2 (b + 28) 1 0) (b + 10) 2 m.2.2) := Fr.pF (by unfold wM; omega)
    have F7 : Fr2 (fun k => b + 1 ≤ k ∧ k ≤ b + 18) (fun k j => (k = b ∧ j = 6) ∨ k = b + 28) s (pF s6 b 6 0) := (((F2b.wk (fun k q => by unfold wM at q; omega) (fun k j q => Or.inr q)).tr ((F5.wk (fun k q => by unfold wM at q; omega)).to2)).tr ((f6.wk (fun k q => by unfold wM at q; omega)).to2)).tr (Fr2.pF (Or.inl ⟨rfl, rfl⟩))
    have F7' : Fr2 (wO b d) (uMoor b d) s (pF s6 b 6 0) := ((F2.tr ((F5.wk (fun k q => by unfold wM at q; unfold wO wC; omega)).to2)).tr ((f6.wk (fun k q => by unfold wM at q; unfold wO wC; omega)).to2)).tr (Fr2.pF (Or.inl ⟨rfl, rfl⟩))
    have C7 : CM (pF s6 b 6 0) (b + 1) 0 m' := C6.fr2 (Fr2.pF (w := fun _ => False) (u := fun k j => k = b) rfl) (fun _ _ _ q => q) (fun j => by omega)
    rw [(show gF (pF s6 b 6 0) (b + 1) 6 = nI (m'.1 0 0) from C7.2.2.1)] at c1
    obtain ⟨x, t', k, z7, h, g⟩ := ref _ (F7.wk (fun k q => q) (fun k j q => q.elim (fun z => Or.inl z.1) Or.inr))
    rcases h with ⟨h, rfl, h3, h4⟩ | ⟨f', h, _⟩
    · refine ⟨_, _, t', m', c1, ?_, C7.fr2 g (fun k q1 q2 => by omega) (fun j => by omega), by rw [hm']; exact h3, B', ⟨0, T, by omega, ?_, z7.trans nI_0.symm, fun i hi => absurd hi (by omega)⟩, ⟨0, by omega, ?_, h4.trans nI_0.symm, fun i hi => absurd hi (by omega)⟩, F7'.tr (g.wk (fun k q => Or.inr (Or.inl q)) (fun k j q => kW q))⟩
      · rw [hm']; exact k
      · rw [g.1 (b + 28) 1 (by omega) (by omega), gF_pF, if_neg (by omega), (f6 (b + 28) (by unfold wM; omega)).1, gF_pF, if_neg (by omega)]; exact l0
      · rw [g.1 b 6 (by omega) (by omega), gF_pF, if_pos ⟨rfl, rfl⟩]; rfl
    · rw [hf] at h; cases h
end MOOR2
