/-! putting into sheets -/
section SHEETS
variable {s : St} {b d : Nat}
/-- what the sheets' pairs touch -/
def wSh (b d : Nat) : Nat → Prop := fun k => (b + 41 ≤ k ∧ k ≤ b + 47 ∧ k ≠ b + 43) ∨ (d + 8 ≤ k ∧ k ≤ d + 10)
def narrN (j : Nat) (x : Int32) : Int64 := if j = 1 then (x.toInt8.toInt32).toInt64 else if j = 2 then (x.toInt16.toInt32).toInt64 else x.toInt64
theorem sort_n : ∀ j, j < 5 → j ≠ 0 → (((nI j - 1 = (0 : Int32)) ↔ j = 1) ∧ ((nI j - 1 = (1 : Int32)) ↔ j = 2) ∧ ((nI j = (1 : Int32)) ↔ j = 1) ∧ ((nI j = (2 : Int32)) ↔ j = 2)) := by decide +kernel
theorem c_narrowed {j : Nat} (hj : j ≤ 4) (h0 : j ≠ 0) (x : Int32) : f_X3_narrowed x (nI j - 1) = some (narrN j x) := by
  obtain ⟨e1, e2, _, _⟩ := sort_n j (by omega) h0
  unfold f_X3_narrowed narrN
  by_cases q : j = 1
  · rw [if_pos (e1.mpr q), if_pos q]
  · rw [if_neg (fun t => q (e1.mp t)), if_neg q]
    by_cases q2 : j = 2
    · rw [if_pos (e2.mpr q2), if_pos q2]
    · rw [if_neg (fun t => q2 (e2.mp t)), if_neg q2]
theorem p_put (hd : d = b + 53) (hX : XS s b d) (a1 a2 a3 : Int32) : ∃ x s1 s2, f_X3_put b a1 a2 a3 s = some (x, s1) ∧ f_X4_put d a1 a2 a3 s1 = some (x, s2) ∧ XS s2 b d ∧ Fr (wSh b d) s s2 := by
  have c1 := f_X3_put.eq_1 b a1 a2 a3 s
  rw [c_isSheet, cp_s] at c1
  have r1 := fun t => f_X4_put.eq_1 d a1 a2 a3 t
  simp only [r_isSheet, cp_s] at r1
  cases q : wp a1 4
  · rw [q] at c1; exact ⟨-1, s, s, c1, by rw [r1, q]; rfl, hX, Fr.rf⟩
  obtain ⟨k, hk, rfl⟩ := wp_of q (by omega)
  have gk : ∀ {α : Type} (o : Option α), gd (ib (nI k) 4) o = o := fun o => gd_n hk (by omega)
  have hX0 := hX
  obtain ⟨j, z, hj, hz, h1, h2, h3, h4, h5⟩ := hX k hk
  obtain ⟨e1, e2⟩ := sort_0 j (by omega)
  have ik : ix (nI k) = k := ix_n (by omega)
  simp only [q, bI_t, gk, ik] at c1 r1
  rw [if_neg (by decide), h1] at c1
  by_cases y : j = 0
  · rw [if_pos (e1.mpr y)] at c1
    exact ⟨-11, s, s, c1, by rw [r1, if_neg (by decide), h2, if_pos (e2.mpr y)], hX0, Fr.rf⟩
  rw [if_neg (fun t => y (e1.mp t)), h3] at c1
  have r2 : ∀ t, gA t (d + 8) k = nI j → gA t (d + 9) k = nI z → f_X4_put d (nI k) a2 a3 t = _ := fun t t1 t2 => by rw [r1, if_neg (by decide), t1, if_neg (fun w => y (e2.mp w)), t2, r_inBelow a2 (by omega), cp_s]
  have ec := ch_wp (a := a2) (M := nI z) (nI_toInt (by omega))
  cases q3 : wp a2 z
  · rw [q3] at ec
    refine ⟨-12, s, s, ?_, by rw [r2 s h2 h4, q3]; rfl, hX0, Fr.rf⟩
    rw [c1]
    by_cases t1 : a2 < 0
    · rw [if_pos t1]
    · rw [if_neg t1] at ec ⊢
      by_cases t2 : nI z ≤ a2
      · rw [if_neg (fun t => by rw [Int32.lt_iff_toInt_lt] at t; rw [Int32.le_iff_toInt_le] at t2; omega)]
      · rw [if_neg t2] at ec; cases ec
  · obtain ⟨i, hi, rfl⟩ := wp_of q3 (by omega)
    rw [if_neg (nI_pos (by omega)), if_pos (nI_lt hi (by omega)), c_narrowed hj y, cp_s, gd_n (show i < 40 by omega) (by omega), ix_n (by omega), bn_e] at c1
    obtain ⟨_, _, e3, e4⟩ := sort_n j (by omega) y
    refine ⟨1, _, pL (pL s ((b + 44) + k) i (narrN j a3)) (d + 10) (40 * k + i) (narrN j a3), c1, ?_, fun x hx => ?_, (Fr.pL (Or.inl ⟨by omega, by omega, by omega⟩)).tr (Fr.pL (Or.inr ⟨by omega, by omega⟩))⟩
    · rw [r2 (pL s ((b + 44) + k) i (narrN j a3)) h2 h4, q3, if_neg bt_ne, ix40, gd_n (show 40 * k + i < 160 by omega) (by omega), gd_n (show 40 * k + i < 160 by omega) (by omega), gd_n (show 40 * k + i < 160 by omega) (by omega), ix_n (by omega), bn_e, bn_e, bn_e]
      unfold narrN
      by_cases w1 : j = 1
      · rw [if_pos (e3.mpr w1), if_pos w1]
      · rw [if_neg (fun t => w1 (e3.mp t)), if_neg w1]
        by_cases w2 : j = 2
        · rw [if_pos (e4.mpr w2), if_pos w2]
        · rw [if_neg (fun t => w2 (e4.mp t)), if_neg w2]
    · obtain ⟨j', z', hj', hz', g1, g2, g3, g4, g5⟩ := hX0 x hx
      refine ⟨j', z', hj', hz', g1, g2, g3, g4, fun i' hi' => ?_⟩
      rw [gL_pL, if_neg (by omega), gL_pL, gL_pL]
      by_cases w : x = k ∧ i' = i
      · rw [if_pos ⟨by omega, w.2⟩, if_pos ⟨rfl, by omega⟩]
      · rw [if_neg (by omega), if_neg (by omega), gL_pL, if_neg (by omega)]
        exact g5 i' hi'
end SHEETS
