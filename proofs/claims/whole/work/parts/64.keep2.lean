/-! keep -/
section KEEPB
variable {s : St} {b d : Nat} {m : MS}
/-- what keep touches -/
def wKp (b d : Nat) : Nat → Prop := fun k => (b + 19 ≤ k ∧ k ≤ b + 27) ∨ k = d + 2
theorem p_keep (hd : d = b + 53) (hC : CM s (b + 1) 0 m) (hM : MM s d 0 m) (hB : BM m) : ∃ x s1 s2, f_X3_keep b s = some (x, s1) ∧ f_X4_keep d s1 = some (x, s2) ∧ XK s2 b d ∧ CM s2 (b + 1) 0 m ∧ MM s2 d 0 m ∧ (∀ k j, ¬ wKp b d k → (k = b ∨ k = d → j ≠ 3) → gF s2 k j = gF s k j) ∧ (∀ k, ¬ wKp b d k → (∀ j, gA s2 k j = gA s k j) ∧ (∀ j, gL s2 k j = gL s k j)) := by
  obtain ⟨s1, e1, f1, g1⟩ := c_become hC hB.1 (b := b + 19) (by omega)
  obtain ⟨s2, e2, f2, g2⟩ := r_keepRow (d := d) (pF s1 b 3 1) (fun (s3 : St) => bn (pF s3 d 3 (1 : Int32)) fun s7 => some ((1 : Int32), s7))
  have F : ∀ k j, ¬ wKp b d k → gF (pF s2 d 3 1) k j = if k = d ∧ j = 3 then 1 else if k = b ∧ j = 3 then 1 else gF s k j := by
    intro k j hk
    unfold wKp at hk
    rw [gF_pF, (f2 k (by omega)).1 j, gF_pF, (f1 k (by unfold wM; omega)).1 j]
  have A : ∀ k, ¬ wKp b d k → (∀ j, gA (pF s2 d 3 1) k j = gA s k j) ∧ (∀ j, gL (pF s2 d 3 1) k j = gL s k j) := by
    intro k hk
    unfold wKp at hk
    exact ⟨fun j => ((f2 k (by omega)).2.1 j).trans ((f1 k (by unfold wM; omega)).2.1 j), fun j => ((f2 k (by omega)).2.2 j).trans ((f1 k (by unfold wM; omega)).2.2 j)⟩
  have row : ∀ j, j < 103 → gA (pF s2 d 3 1) (d + 2) j = gA s (d + 1) j := fun j hj => (g2 j hj).trans ((f1 (d + 1) (by unfold wM; omega)).2.1 j)
  have cm : ∀ c, (∀ k, c ≤ k → k ≤ c + 8 → ¬ wKp b d k ∧ k ≠ b ∧ k ≠ d) → CM s c 0 m → CM (pF s2 d 3 1) c 0 m := by
    intro c hc h
    obtain ⟨h1, h2, h3, h4, h5, h6, h7⟩ := h
    have c0 := hc c (by omega) (by omega)
    have gf : ∀ j, gF (pF s2 d 3 1) c j = gF s c j := fun j => by rw [F c j c0.1, if_neg (fun z => c0.2.2 z.1), if_neg (fun z => c0.2.1 z.1)]
    have ga : ∀ i, i ≤ 8 → ∀ j, gA (pF s2 d 3 1) (c + i) j = gA s (c + i) j := fun i hi => (A (c + i) (hc _ (by omega) (by omega)).1).1
    exact ⟨(gf _).trans h1, (gf _).trans h2, (gf _).trans h3, (gf _).trans h4, fun x hx => (ga 1 (by omega) x).trans (h5 x hx), fun x hx => ⟨(ga 2 (by omega) x).trans (h6 x hx).1, (ga 3 (by omega) x).trans (h6 x hx).2.1, (ga 4 (by omega) x).trans (h6 x hx).2.2⟩, fun x hx => ⟨(ga 5 (by omega) x).trans (h7 x hx).1, (ga 6 (by omega) x).trans (h7 x hx).2.1, (ga 7 (by omega) x).trans (h7 x hx).2.2.1, (ga 8 (by omega) x).trans (h7 x hx).2.2.2⟩⟩
  refine ⟨1, pF s1 b 3 1, pF s2 d 3 1, ?_, ?_, Or.inr ⟨?_, ?_, m, ?_, hM.1.ext hB.1 row, hB⟩, cm (b + 1) (fun k q1 q2 => by unfold wKp; omega) hC, ⟨?_, ?_⟩, fun k j hk hj => ?_, A⟩
  · unfold f_X3_keep; rw [e1, cw_s, bn_e]
  · unfold f_X4_keep; rw [e2, bn_e]
  · rw [F b 3 (by unfold wKp; omega), if_neg (by omega), if_pos ⟨rfl, rfl⟩]
  · rw [F d 3 (by unfold wKp; omega), if_pos ⟨rfl, rfl⟩]
  · have h1 : CM (pF s1 b 3 1) (b + 19) 0 m := by
      obtain ⟨h1, h2, h3, h4, h5, h6, h7⟩ := g1
      refine ⟨?_, ?_, ?_, ?_, h5, h6, h7⟩ <;> rw [gF_pF, if_neg (by omega)] <;> assumption
    have h2 : CM s2 (b + 19) 0 m := h1.fr f2 (fun k q1 q2 => by omega)
    obtain ⟨h1, h2, h3, h4, h5, h6, h7⟩ := h2
    refine ⟨?_, ?_, ?_, ?_, h5, h6, h7⟩ <;> rw [gF_pF, if_neg (by omega)] <;> assumption
  · have : gA (pF s2 d 3 1) (d + 1) = gA s (d + 1) := funext (A (d + 1) (by unfold wKp; omega)).1
    rw [this]; exact hM.1
  · rw [F d 4 (by unfold wKp; omega), if_neg (by omega), if_neg (by omega)]; exact hM.2
  · rw [F k j hk]
    by_cases z1 : k = d ∧ j = 3
    · exact absurd z1.2 (hj (Or.inr z1.1))
    · rw [if_neg z1]
      by_cases z2 : k = b ∧ j = 3
      · exact absurd z2.2 (hj (Or.inl z2.1))
      · rw [if_neg z2]
end KEEPB
