/-! a sheet is laid -/
section SHEET
variable {s : St} {b d : Nat}
theorem c_wipe {k : Nat} (hk : k < 4) (K : St → Option (Int32 × St)) : ∃ s', L_X3_sheet_66 b (nI k) K FU (0 : Int32) s = K s' ∧ (∀ x j, gF s' x j = gF s x j) ∧ (∀ x j, gA s' x j = gA s x j) ∧ ∀ x j, gL s' x j = if x = (b + 44) + k ∧ j < 40 then 0 else gL s x j := by
  obtain ⟨s', e, p1, p2, p3⟩ := loop0 (fun n c s => L_X3_sheet_66 b (nI k) K n c s) K 40 (by omega) (fun i t => (∀ x j, gF t x j = gF s x j) ∧ (∀ x j, gA t x j = gA s x j) ∧ ∀ x j, gL t x j = if x = (b + 44) + k ∧ j < i then 0 else gL s x j) s ⟨fun _ _ => rfl, fun _ _ => rfl, fun x j => by rw [if_neg (by omega)]⟩ (by
    intro n t _
    show B_X3_sheet_66 _ b (nI k) K (nI 40) t = _
    unfold B_X3_sheet_66
    exact if_pos (nI_le (Nat.le_refl 40) (by omega))) (by
    intro n i t hi ⟨p1, p2, p3⟩
    show ∃ s', B_X3_sheet_66 (L_X3_sheet_66 b (nI k) K n) b (nI k) K (nI i) t = L_X3_sheet_66 b (nI k) K n (nI (i + 1)) s' ∧ _
    unfold B_X3_sheet_66
    rw [if_neg (by rw [li_40]; exact nI_ge hi (by omega)), gd_n hk (by omega), gd_n hi (by omega), ix_n (by omega), ix_n (by omega), bn_e, nI_1]
    refine ⟨_, rfl, p1, p2, fun x j => ?_⟩
    rw [gL_pL]
    by_cases q : x = (b + 44) + k ∧ j = i
    · rw [if_pos q, if_pos ⟨q.1, by omega⟩]
    · rw [if_neg q, p3]
      by_cases w : x = (b + 44) + k ∧ j < i
      · rw [if_pos w, if_pos ⟨w.1, by omega⟩]
      · rw [if_neg w, if_neg (by omega)])
  exact ⟨s', e, p1, p2, p3⟩
theorem r_wipe {k : Nat} (hk : k < 4) (K : St → Option (Int32 × St)) : ∃ s', L_X4_sheet_71 d (nI k) K FU (0 : Int32) s = K s' ∧ (∀ x j, gF s' x j = gF s x j) ∧ (∀ x j, gA s' x j = gA s x j) ∧ ∀ x j, gL s' x j = if x = d + 10 ∧ 40 * k ≤ j ∧ j < 40 * k + 40 then 0 else gL s x j := by
  obtain ⟨s', e, p1, p2, p3⟩ := loop0 (fun n c s => L_X4_sheet_71 d (nI k) K n c s) K 40 (by omega) (fun i t => (∀ x j, gF t x j = gF s x j) ∧ (∀ x j, gA t x j = gA s x j) ∧ ∀ x j, gL t x j = if x = d + 10 ∧ 40 * k ≤ j ∧ j < 40 * k + i then 0 else gL s x j) s ⟨fun _ _ => rfl, fun _ _ => rfl, fun x j => by rw [if_neg (by omega)]⟩ (by
    intro n t _
    show B_X4_sheet_71 _ d (nI k) K (nI 40) t = _
    unfold B_X4_sheet_71
    exact if_pos (nI_le (Nat.le_refl 40) (by omega))) (by
    intro n i t hi ⟨p1, p2, p3⟩
    show ∃ s', B_X4_sheet_71 (L_X4_sheet_71 d (nI k) K n) d (nI k) K (nI i) t = L_X4_sheet_71 d (nI k) K n (nI (i + 1)) s' ∧ _
    unfold B_X4_sheet_71
    rw [if_neg (by rw [li_40]; exact nI_ge hi (by omega)), ix40, gd_n (show 40 * k + i < 160 by omega) (by omega), ix_n (by omega), bn_e, nI_1]
    refine ⟨_, rfl, p1, p2, fun x j => ?_⟩
    rw [gL_pL]
    by_cases q : x = d + 10 ∧ j = 40 * k + i
    · rw [if_pos q, if_pos ⟨q.1, by omega, by omega⟩]
    · rw [if_neg q, p3]
      by_cases w : x = d + 10 ∧ 40 * k ≤ j ∧ j < 40 * k + i
      · rw [if_pos w, if_pos ⟨w.1, w.2.1, by omega⟩]
      · rw [if_neg w, if_neg (by omega)])
  exact ⟨s', e, p1, p2, p3⟩
theorem p_lay (hd : d = b + 53) (hX : XS s b d) {k j z : Nat} (hk : k < 4) (hj : j ≤ 4) (hz : z ≤ 40) (K1 K2 : St → Option (Int32 × St)) : ∃ s1, L_X3_sheet_66 b (nI k) K1 FU (0 : Int32) (pA (pA s (b + 41) k (nI j - 1)) (b + 42) k (nI z)) = K1 s1 ∧ ∃ s2, L_X4_sheet_71 d (nI k) K2 FU (0 : Int32) (pA (pA s1 (d + 8) k (nI j)) (d + 9) k (nI z)) = K2 s2 ∧ XS s2 b d ∧ Fr (wSh b d) s s2 := by
  obtain ⟨s1, e1, p1, p2, p3⟩ := c_wipe (s := pA (pA s (b + 41) k (nI j - 1)) (b + 42) k (nI z)) (b := b) hk K1
  obtain ⟨s2, e2, q1, q2, q3⟩ := r_wipe (s := pA (pA s1 (d + 8) k (nI j)) (d + 9) k (nI z)) (d := d) hk K2
  have A : ∀ x i, gA s2 x i = if x = d + 9 ∧ i = k then nI z else if x = d + 8 ∧ i = k then nI j else if x = b + 42 ∧ i = k then nI z else if x = b + 41 ∧ i = k then nI j - 1 else gA s x i := by
    intro x i
    rw [q2, gA_pA, gA_pA, p2, gA_pA, gA_pA]
  have L : ∀ x i, gL s2 x i = if x = d + 10 ∧ 40 * k ≤ i ∧ i < 40 * k + 40 then 0 else if x = (b + 44) + k ∧ i < 40 then 0 else gL s x i := by
    intro x i
    rw [q3, gL_pA, gL_pA, p3, gL_pA, gL_pA]
  have F : ∀ x i, gF s2 x i = gF s x i := by
    intro x i
    rw [q1, gF_pA, gF_pA, p1, gF_pA, gF_pA]
  refine ⟨s1, e1, s2, e2, fun x hx => ?_, fun x hx => ⟨fun i => F x i, fun i => ?_, fun i => ?_⟩⟩
  · obtain ⟨j', z', hj', hz', g1, g2, g3, g4, g5⟩ := hX x hx
    by_cases w : x = k
    · subst w
      refine ⟨j, z, hj, hz, ?_, ?_, ?_, ?_, fun i hi => ?_⟩
      · rw [A, if_neg (by omega), if_neg (by omega), if_neg (by omega), if_pos ⟨rfl, rfl⟩]
      · rw [A, if_neg (by omega), if_pos ⟨rfl, rfl⟩]
      · rw [A, if_neg (by omega), if_neg (by omega), if_pos ⟨rfl, rfl⟩]
      · rw [A, if_pos ⟨rfl, rfl⟩]
      · rw [L, if_neg (by omega), if_pos ⟨rfl, hi⟩, L, if_pos ⟨rfl, by omega, by omega⟩]
    · refine ⟨j', z', hj', hz', ?_, ?_, ?_, ?_, fun i hi => ?_⟩
      · rw [A, if_neg (by omega), if_neg (by omega), if_neg (by omega), if_neg (by omega)]; exact g1
      · rw [A, if_neg (by omega), if_neg (by omega), if_neg (by omega), if_neg (by omega)]; exact g2
      · rw [A, if_neg (by omega), if_neg (by omega), if_neg (by omega), if_neg (by omega)]; exact g3
      · rw [A, if_neg (by omega), if_neg (by omega), if_neg (by omega), if_neg (by omega)]; exact g4
      · rw [L, if_neg (by omega), if_neg (by omega), L, if_neg (by omega), if_neg (by omega)]
        exact g5 i hi
  · unfold wSh at hx
    rw [A, if_neg (by omega), if_neg (by omega), if_neg (by omega), if_neg (by omega)]
  · unfold wSh at hx
    rw [L, if_neg (by omega), if_neg (by omega)]
theorem p_sheet (hd : d = b + 53) (hX : XS s b d) (a1 a2 a3 : Int32) : ∃ x s1 s2, f_X3_sheet b a1 a2 a3 s = some (x, s1) ∧ f_X4_sheet d a1 a2 a3 s1 = some (x, s2) ∧ XS s2 b d ∧ Fr (wSh b d) s s2 := by
  have c1 := f_X3_sheet.eq_1 b a1 a2 a3 s
  rw [c_isSheet, cp_s] at c1
  have r1 := fun t => f_X4_sheet.eq_1 d a1 a2 a3 t
  simp only [r_isSheet, cp_s, r_inLo] at r1
  cases q : wp a1 4
  · rw [q] at c1; exact ⟨-1, s, s, c1, by rw [r1, q]; rfl, hX, Fr.rf⟩
  obtain ⟨k, hk, rfl⟩ := wp_of q (by omega)
  have gk : ∀ {α : Type} (o : Option α), gd (ib (nI k) 4) o = o := fun o => gd_n hk (by omega)
  have ik : ix (nI k) = k := ix_n (by omega)
  simp only [q, bI_t, gk, ik, bn_e] at c1 r1
  rw [if_neg (by decide)] at c1
  have l1 : (a2 < (-1 : Int32)) ↔ a2.toInt < -1 := by rw [Int32.lt_iff_toInt_lt]; rfl
  have l2 : (a2 < (4 : Int32)) ↔ a2.toInt < 4 := by rw [Int32.lt_iff_toInt_lt]; rfl
  have l3 : (a2 < (0 : Int32)) ↔ a2.toInt < 0 := by rw [Int32.lt_iff_toInt_lt]; rfl
  have l4 : ((0 : Int32) ≤ a2) ↔ 0 ≤ a2.toInt := by rw [Int32.le_iff_toInt_le]; rfl
  have l5 : (a3 ≤ (40 : Int32)) ↔ a3.toInt ≤ 40 := by rw [Int32.le_iff_toInt_le]; rfl
  have l6 : ((0 : Int32) ≤ a3) ↔ 0 ≤ a3.toInt := by rw [Int32.le_iff_toInt_le]; rfl
  have i1 : ((-1 : Int64)).toInt = -1 := rfl
  have i3 : ((3 : Int64)).toInt = 3 := rfl
  by_cases y : -1 ≤ a2.toInt ∧ a2.toInt ≤ 3
  · rw [if_neg (fun t => by have := l1.mp t; omega), if_pos (l2.mpr (by omega))] at c1
    have r2 := r1
    simp only [i1, i3, decide_eq_true y, bI_t] at r2
    obtain ⟨j, hj⟩ : ∃ j : Nat, a2.toInt + 1 = j := ⟨(a2.toInt + 1).toNat, by omega⟩
    have hjl : j ≤ 4 := by omega
    have e1 : a2 + 1 = nI j := by
      have : a2 = nI j - 1 := by
        apply Int32.toInt_inj.mp
        rw [show (1 : Int32) = nI 1 from rfl, pk_sub_toInt (by omega) (by omega)]; omega
      rw [this]
      have h5 : ∀ j, j < 5 → nI j - 1 + 1 = nI j := by decide +kernel
      exact h5 j (by omega)
    have e2 : a2 = nI j - 1 := by
      apply Int32.toInt_inj.mp
      rw [show (1 : Int32) = nI 1 from rfl, pk_sub_toInt (by omega) (by omega)]; omega
    by_cases y0 : a2.toInt = -1
    · have z1 : a2 = (-1 : Int32) := Int32.toInt_inj.mp (by rw [y0]; rfl)
      obtain ⟨s1, g1, s2, g2, g3, g4⟩ := p_lay hd hX hk hjl (z := 0) (by omega) (fun s10 => some ((1 : Int32), s10)) (fun s11 => some ((1 : Int32), s11))
      rw [if_pos z1, if_pos (by decide), if_pos (by decide)] at c1
      refine ⟨1, s1, s2, ?_, ?_, g3, g4⟩
      · rw [c1, e2]; exact g1
      · rw [r2, if_neg (by decide), if_neg (by decide), if_pos (l3.mpr (by omega)), if_pos (l3.mpr (by omega)), if_neg (fun t => by have := l4.mp t; omega), e1]; exact g2
    · have z1 : ¬ a2 = (-1 : Int32) := fun t => y0 (by rw [t]; rfl)
      rw [if_neg z1] at c1
      have r3 : ∀ t, f_X4_sheet d (nI k) a2 a3 t = _ := fun t => by rw [r2, if_neg (by decide), if_neg (by decide), if_neg (fun t => by have := l3.mp t; omega)]
      by_cases y1 : a3.toInt ≤ 40
      · rw [if_pos (l5.mpr y1)] at c1
        by_cases y2 : 0 ≤ a3.toInt
        · obtain ⟨z, hz⟩ : ∃ z : Nat, a3.toInt = z := ⟨a3.toInt.toNat, by omega⟩
          have e3 := nI_back hz (by omega)
          rw [if_pos (l6.mpr y2)] at c1
          obtain ⟨s1, g1, s2, g2, g3, g4⟩ := p_lay hd hX hk hjl (z := z) (by omega) (fun s10 => some ((1 : Int32), s10)) (fun s11 => some ((1 : Int32), s11))
          refine ⟨1, s1, s2, ?_, ?_, g3, g4⟩
          · rw [c1, e2, e3]; exact g1
          · rw [r3, if_pos (l5.mpr y1), if_neg (fun t => by have := l3.mp t; omega), if_pos (l6.mpr y2), if_pos (l4.mpr (by omega)), e1, e3]; exact g2
        · rw [if_neg (fun t => y2 (l6.mp t))] at c1
          exact ⟨-14, s, s, c1, by rw [r3, if_pos (l5.mpr y1), if_neg (fun t => by have := l3.mp t; omega), if_neg (fun t => y2 (l6.mp t))], hX, Fr.rf⟩
      · rw [if_neg (fun t => y1 (l5.mp t))] at c1
        exact ⟨-1, s, s, c1, by rw [r3, if_neg (fun t => y1 (l5.mp t))], hX, Fr.rf⟩
  · refine ⟨-1, s, s, ?_, by rw [r1, i1, i3, decide_eq_false y]; rfl, hX, Fr.rf⟩
    rw [c1]
    by_cases w : a2.toInt < -1
    · rw [if_pos (l1.mpr w)]
    · rw [if_neg (fun t => w (l1.mp t)), if_neg (fun t => by have := l2.mp t; omega)]
end SHEET
