/-! many, trace -/
/-- what was traced lies alike -/
def XA (s : St) (b d : Nat) : Prop := ∃ n, n ≤ 30 ∧ gF s (b + 51) 1 = nI n ∧ gF s d 23 = nI n ∧ ∀ i, i < n → gA s ((b + 51) + 1) i = gA s (d + 14) i
section MANY
variable {s : St} {b d : Nat} {m : MS}
theorem p_trace (hX : XA s b d) (a1 : Int32) : PP s (f_X3_trace b a1) (f_X4_trace d a1) := by
  obtain ⟨n, hn, h1, h2, h3⟩ := hX
  unfold PP f_X3_trace f_X4_trace
  rw [h1, h2, r_inBelow a1 (by omega), cp_s]
  have ec := ch_wp (a := a1) (M := nI n) (nI_toInt (by omega))
  cases q : wp a1 n
  · rw [q] at ec
    refine ⟨-3, ?_, rfl⟩
    by_cases t1 : a1 < 0
    · rw [if_pos t1]
    · rw [if_neg t1] at ec ⊢
      by_cases t2 : nI n ≤ a1
      · rw [if_pos t2]
      · rw [if_neg t2] at ec; cases ec
  · obtain ⟨i, hi, rfl⟩ := wp_of q (by omega)
    rw [if_neg (nI_pos (by omega)), if_neg (nI_ge hi (by omega)), if_neg bt_ne, gd_n (show i < 30 by omega) (by omega), gd_n (show i < 30 by omega) (by omega), ix_n (by omega), h3 i (by omega)]
    exact ⟨_, rfl, rfl⟩
theorem p_many (hC : CM s (b + 1) 0 m) (hM : MM s d 0 m) (hB : BM m) (h4 : gF s b 6 = gF s d 15) (h5 : gF s (b + 28) 1 = gF s d 7) (h6 : gF s (b + 51) 1 = gF s d 23) (a1 : Int32) : PP s (f_X3_many b a1) (f_X4_many d a1) := by
  unfold PP f_X3_many f_X4_many
  by_cases q0 : a1 = 0
  · rw [if_pos q0, if_pos q0, hC.2.2.1, hM.1.2.2.1]; exact ⟨_, rfl, rfl⟩
  rw [if_neg q0, if_neg q0]
  by_cases q1 : a1 = 1
  · rw [if_pos q1, if_pos q1, c_wetCells hC hB, li_0, r_cellsSuch hM hB (by omega) (by omega), cp_s, cp_s, bitc64 (mkN_lt _ _), pop32 _ (Nat.le_refl _), cp_s]; exact ⟨_, rfl, rfl⟩
  rw [if_neg q1, if_neg q1]
  by_cases q2 : a1 = 2
  · rw [if_pos q2, if_pos q2, c_lostCount hC hB, r_lostCount hM hB]; exact ⟨_, rfl, rfl⟩
  rw [if_neg q2, if_neg q2]
  by_cases q3 : a1 = 3
  · rw [if_pos q3, if_pos q3, c_hollows hC, li_2, r_cellsSuch hM hB (by omega) (by omega), cp_s, cp_s, bitc64 (mkN_lt _ _), pop32 _ (Nat.le_refl _), cp_s]; exact ⟨_, rfl, rfl⟩
  rw [if_neg q3, if_neg q3]
  by_cases q4 : a1 = 4
  · rw [if_pos q4, if_pos q4, h4]; exact ⟨_, rfl, rfl⟩
  rw [if_neg q4, if_neg q4]
  by_cases q5 : a1 = 5
  · rw [if_pos q5, if_pos q5, h5]; exact ⟨_, rfl, rfl⟩
  rw [if_neg q5, if_neg q5]
  by_cases q6 : a1 = 6
  · rw [if_pos q6, if_pos q6, h6]; exact ⟨_, rfl, rfl⟩
  rw [if_neg q6, if_neg q6]
  exact ⟨_, rfl, rfl⟩
end MANY
