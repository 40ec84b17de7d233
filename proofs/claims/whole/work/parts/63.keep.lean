/-! keep and again -/
/-- what is kept lies alike -/
def XK (s : St) (b d : Nat) : Prop := (gF s b 3 = 0 ∧ gF s d 3 = 0) ∨ (gF s b 3 = 1 ∧ gF s d 3 = 1 ∧ ∃ k, CM s (b + 19) 0 k ∧ RM (gA s (d + 2)) k ∧ BM k)
section KEEP
variable {s : St} {a b d mu : Nat} {m : MS}
theorem c_become' (h : CM s a mu m) (h8 : m.1 0 0 ≤ 8) (hd : b + 8 < a) : ∃ s', f_X1_become b a s = some s' ∧ Fr (wM b) s s' ∧ CM s' b mu m := by
  obtain ⟨h1, h2, h3, h4, h5, h6, h7⟩ := h
  unfold f_X1_become
  simp only [bn_e]
  refine ⟨_, rfl, ?_, ?_⟩
  · repeat' first
      | exact Fr.pC (by unfold wM; omega)
      | refine Fr.tr ?_ (Fr.pF (by unfold wM; omega))
      | refine Fr.tr ?_ (Fr.pC (by unfold wM; omega))
  · have e00 : ¬ a = b := by omega
    have z0 : ∀ k, ¬ a + k = b := fun k => by omega
    have y1 : ¬ a = b + 1 := by omega
    have y2 : ¬ a = b + 2 := by omega
    have y3 : ¬ a = b + 3 := by omega
    have y4 : ¬ a = b + 4 := by omega
    have y5 : ¬ a = b + 5 := by omega
    have y6 : ¬ a = b + 6 := by omega
    have y7 : ¬ a = b + 7 := by omega
    have y8 : ¬ a = b + 8 := by omega
    refine ⟨?_, ?_, ?_, ?_, fun x hx => ?_, fun x hx => ⟨?_, ?_, ?_⟩, fun x hx => ?_⟩
    · simp [gF_pF, gF_pC, e00]; exact h1
    · simp [gF_pF, gF_pC, e00]; exact h2
    · simp [gF_pF, gF_pC, e00]; exact h3
    · simp [gF_pF, gF_pC, e00]; exact h4
    · simp [gA_pF, gA_pC, cpN, hx, z0, e00, y1, y2, y3, y4, y5, y6, y7, y8]; exact h5 x hx
    · simp [gA_pF, gA_pC, cpN, hx, z0, e00, y1, y2, y3, y4, y5, y6, y7, y8]; exact (h6 x hx).1
    · simp [gA_pF, gA_pC, cpN, hx, z0, e00, y1, y2, y3, y4, y5, y6, y7, y8]; exact (h6 x hx).2.1
    · simp [gA_pF, gA_pC, cpN, hx, z0, e00, y1, y2, y3, y4, y5, y6, y7, y8]; exact (h6 x hx).2.2
    · have hx8 : x < 8 := by omega
      obtain ⟨z1, z2, z3, z4⟩ := h7 x hx
      refine ⟨?_, ?_, ?_, ?_⟩
      · simp [gA_pF, gA_pC, cpN, hx8, z0, e00, y1, y2, y3, y4, y5, y6, y7, y8]; exact z1
      · simp [gA_pF, gA_pC, cpN, hx8, z0, e00, y1, y2, y3, y4, y5, y6, y7, y8]; exact z2
      · simp [gA_pF, gA_pC, cpN, hx8, z0, e00, y1, y2, y3, y4, y5, y6, y7, y8]; exact z3
      · simp [gA_pF, gA_pC, cpN, hx8, z0, e00, y1, y2, y3, y4, y5, y6, y7, y8]; exact z4
theorem r_keepRow (s : St) (K : St → Option (Int32 × St)) : ∃ s', L_X4_keep_2 d K FU (0 : Int32) s = K s' ∧ Fr (fun k => k = d + 2) s s' ∧ ∀ j, j < 103 → gA s' (d + 2) j = gA s (d + 1) j := by
  refine loop0 (fun n c s => L_X4_keep_2 d K n c s) K 103 (by omega) (fun i t => Fr (fun k => k = d + 2) s t ∧ ∀ j, j < i → gA t (d + 2) j = gA s (d + 1) j) s ⟨Fr.rf, fun j hj => absurd hj (by omega)⟩ ?_ ?_
  · intro n t _
    show B_X4_keep_2 _ d _ (nI 103) t = _
    unfold B_X4_keep_2
    exact if_pos (nI_le (Nat.le_refl 103) (by omega))
  · intro n i t hi ⟨hF, hC⟩
    show ∃ s', B_X4_keep_2 (L_X4_keep_2 d K n) d _ (nI i) t = L_X4_keep_2 d K n (nI (i + 1)) s' ∧ _
    unfold B_X4_keep_2
    rw [if_neg (by rw [li_103]; exact nI_ge hi (by omega)), gd_n hi (by omega), gd_n hi (by omega), ix_n (by omega), bn_e, nI_1]
    refine ⟨_, rfl, hF.tr (Fr.pA rfl), fun j hj => ?_⟩
    rw [gA_pA]
    by_cases q : j = i
    · rw [if_pos ⟨rfl, q⟩, q, (hF (d + 1) (by omega)).2.1]
    · rw [if_neg (fun z => q z.2)]; exact hC j (by omega)
theorem r_againRow (s : St) (K : St → Option (Int32 × St)) : ∃ s', L_X4_again_12 d K FU (0 : Int32) s = K s' ∧ Fr (fun k => k = d + 1) s s' ∧ ∀ j, j < 103 → gA s' (d + 1) j = gA s (d + 2) j := by
  refine loop0 (fun n c s => L_X4_again_12 d K n c s) K 103 (by omega) (fun i t => Fr (fun k => k = d + 1) s t ∧ ∀ j, j < i → gA t (d + 1) j = gA s (d + 2) j) s ⟨Fr.rf, fun j hj => absurd hj (by omega)⟩ ?_ ?_
  · intro n t _
    show B_X4_again_12 _ d _ (nI 103) t = _
    unfold B_X4_again_12
    exact if_pos (nI_le (Nat.le_refl 103) (by omega))
  · intro n i t hi ⟨hF, hC⟩
    show ∃ s', B_X4_again_12 (L_X4_again_12 d K n) d _ (nI i) t = L_X4_again_12 d K n (nI (i + 1)) s' ∧ _
    unfold B_X4_again_12
    rw [if_neg (by rw [li_103]; exact nI_ge hi (by omega)), gd_n hi (by omega), gd_n hi (by omega), ix_n (by omega), bn_e, nI_1]
    refine ⟨_, rfl, hF.tr (Fr.pA rfl), fun j hj => ?_⟩
    rw [gA_pA]
    by_cases q : j = i
    · rw [if_pos ⟨rfl, q⟩, q, (hF (d + 2) (by omega)).2.1]
    · rw [if_neg (fun z => q z.2)]; exact hC j (by omega)
theorem p_again (hd : d = b + 53) (hX : XK s b d) (hC : CM s (b + 1) 0 m) (hM : MM s d 0 m) (hB : BM m) : PO b d s (f_X3_again b) (f_X4_again d) := by
  have c1 := f_X3_again.eq_1 b s
  have r1 := fun t => f_X4_again.eq_1 d t
  rcases hX with ⟨h1, h2⟩ | ⟨h1, h2, k, hk, hr, hb⟩
  · rw [if_pos h1] at c1
    exact PO.no hC hM hB c1 (by rw [r1, if_pos h2])
  · obtain ⟨s1, e1, f1, g1⟩ := c_become' hk hb.1 (b := b + 1) (by omega)
    rw [if_neg (by rw [h1]; decide), e1, cw_s, g1.2.2.1] at c1
    refine PO.mk hd hM hb c1 (f1.wk (fun k q => by unfold wM at q; unfold wC; omega)) g1 (fun hM1 => ?_)
    have a1 : gF s1 d 3 = 1 := ((f1 d (by unfold wM; omega)).1 3).trans h2
    have a2 : RM (gA s1 (d + 2)) k := by
      have g : gA s1 (d + 2) = gA s (d + 2) := funext (f1 (d + 2) (by unfold wM; omega)).2.1
      rw [g]; exact hr
    obtain ⟨s2, e2, f2, g2⟩ := r_againRow (d := d) s1 (fun (s3 : St) => some ((gA s3 (d + 1) 5), s3))
    have m2 : RM (gA s2 (d + 1)) k := a2.ext hb.1 g2
    refine ⟨s2, ?_, f2.wk (fun k q => Or.inl q), m2, ((f2 d (by omega)).1 4).trans hM1.2⟩
    rw [r1, if_neg (by rw [a1]; decide), e2, m2.2.2.1]
end KEEP
