/-! pairs: of, cell, state -/
section PAIRS4
variable {s : St} {b d : Nat} {m : MS}
theorem lit_ne {j : Nat} (k : Nat) (hj : j < 2 ^ 31) (hk : k < 2 ^ 31) (h : j ≠ k) : ¬ nI j = nI k := fun z => h ((nI_eq hj hk).mp z)
theorem wp_lit {a : Int32} {n : Nat} (h : wp a n = false) {j : Nat} (hj : j < n) (hn : n ≤ 2 ^ 31) : ¬ a = nI j := by
  rintro rfl
  rw [wp_n hj hn] at h
  cases h
theorem p_of (hC : CM s (b + 1) 0 m) (hM : MM s d 0 m) (hB : BM m) (a1 a2 : Int32) : PP s (f_X3_of b a1 a2) (f_X4_of d a1 a2) := by
  have h8 := hB.1
  unfold PP
  have c1 := f_X3_of.eq_1 b a1 a2 s
  have r1 := f_X4_of.eq_1 d a1 a2 s
  rw [c_isPerson hC h8, cp_s] at c1
  rw [r_isPerson hM h8, cp_s, r_inN a2 7 (n := 7) (by decide), cp_s] at r1
  cases h : wp a1 (m.1 0 0)
  · rw [h] at c1 r1; exact ⟨-1, c1, r1⟩
  · rw [h, if_neg bt_ne] at c1 r1
    obtain ⟨p, hp, rfl⟩ := wp_of h (by omega)
    obtain ⟨p1, p2, p3, p4⟩ := hC.2.2.2.2.2.2 p hp
    cases h2 : wp a2 (7 + 1)
    · rw [h2] at r1
      have g : ∀ j, j < 8 → ¬ a2 = nI j := fun j hj => wp_lit h2 (by omega) (by omega)
      rw [if_neg (show ¬ a2 = (0 : Int32) from g 0 (by omega)), if_neg (show ¬ a2 = (1 : Int32) from g 1 (by omega)), if_neg (show ¬ a2 = (2 : Int32) from g 2 (by omega)), if_neg (show ¬ a2 = (3 : Int32) from g 3 (by omega)), if_neg (show ¬ a2 = (4 : Int32) from g 4 (by omega)), if_neg (show ¬ a2 = (5 : Int32) from g 5 (by omega)), if_neg (show ¬ a2 = (6 : Int32) from g 6 (by omega)), if_neg (show ¬ a2 = (7 : Int32) from g 7 (by omega))] at c1
      exact ⟨-1, c1, r1⟩
    · rw [h2, if_neg bt_ne] at r1
      obtain ⟨k, hk, rfl⟩ := wp_of h2 (by omega)
      have e7 : (nI (m.1 7 p) = 0) ↔ m.1 7 p = 0 := by rw [← nI_0]; exact nI_eq (by have := (hB.2.2.2.2.2 p hp).2.2.1; omega) (by omega)
      rcases (by omega : k = 0 ∨ k = 1 ∨ k = 2 ∨ k = 3 ∨ k = 4 ∨ k = 5 ∨ k = 6 ∨ k = 7) with rfl | rfl | rfl | rfl | rfl | rfl | rfl | rfl
      · rw [if_pos (by decide), gd_n (show p < 8 by omega) (by omega), ix_n (by omega), p1] at c1
        rw [if_neg (by decide), if_neg (by decide), if_neg (by decide), if_neg (by decide), ← li_0, r_g0 hM h8 hp] at r1
        exact ⟨_, c1, r1⟩
      · rw [if_neg (by decide), if_pos (by decide), gd_n (show p < 8 by omega) (by omega), ix_n (by omega), p2] at c1
        rw [if_neg (by decide), if_neg (by decide), if_neg (by decide), if_neg (by decide), ← li_1, r_g1 hM h8 hp] at r1
        exact ⟨_, c1, r1⟩
      · rw [if_neg (by decide), if_neg (by decide), if_pos (by decide), gd_n (show p < 8 by omega) (by omega), ix_n (by omega), p3] at c1
        rw [if_neg (by decide), if_neg (by decide), if_neg (by decide), if_neg (by decide), ← li_2, r_g2 hM h8 hp] at r1
        exact ⟨_, c1, r1⟩
      · rw [if_neg (by decide), if_neg (by decide), if_neg (by decide), if_pos (by decide), gd_n (show p < 8 by omega) (by omega), ix_n (by omega), p4] at c1
        rw [if_neg (by decide), if_neg (by decide), if_neg (by decide), if_neg (by decide), ← li_3, r_g3 hM h8 hp] at r1
        exact ⟨_, c1, r1⟩
      · rw [if_neg (by decide), if_neg (by decide), if_neg (by decide), if_neg (by decide), if_pos (by decide), c_welling hC hB (by omega) hp] at c1
        rw [if_pos (by decide), r_wells hM hB (by omega) hp] at r1
        exact ⟨_, c1, r1⟩
      · rw [if_neg (by decide), if_neg (by decide), if_neg (by decide), if_neg (by decide), if_neg (by decide), if_pos (by decide), c_winning hC hB hp] at c1
        rw [if_neg (by decide), if_pos (by decide), r_winsOf hM hB hp] at r1
        exact ⟨_, c1, r1⟩
      · rw [if_neg (by decide), if_neg (by decide), if_neg (by decide), if_neg (by decide), if_neg (by decide), if_neg (by decide), if_pos (by decide), c_isLost hC hB hp, cp_s] at c1
        rw [if_neg (by decide), if_neg (by decide), if_pos (by decide), r_g2 hM h8 hp, cp_s] at r1
        by_cases z : m.1 7 p = 0
        · rw [decide_eq_true z, if_neg bt_ne] at c1
          rw [if_pos (e7.mpr z)] at r1
          exact ⟨_, c1, r1⟩
        · rw [decide_eq_false z, if_pos bf_eq] at c1
          rw [if_neg (fun w => z (e7.mp w))] at r1
          exact ⟨_, c1, r1⟩
      · rw [if_neg (by decide), if_neg (by decide), if_neg (by decide), if_neg (by decide), if_neg (by decide), if_neg (by decide), if_neg (by decide), if_pos (by decide), c_opponents hC hB (by omega) hp] at c1
        rw [if_neg (by decide), if_neg (by decide), if_neg (by decide), if_pos (by decide), r_foesOf hM hB (by omega) hp] at r1
        exact ⟨_, c1, r1⟩
theorem p_cell (hC : CM s (b + 1) 0 m) (hM : MM s d 0 m) (hB : BM m) (a1 a2 : Int32) : PP s (f_X3_cell b a1 a2) (f_X4_cell d a1 a2) := by
  have h8 := hB.1
  unfold PP
  have c1 := f_X3_cell.eq_1 b a1 a2 s
  have r1 := f_X4_cell.eq_1 d a1 a2 s
  rw [c_isCell, cp_s] at c1
  rw [r_isCell, cp_s, r_inN a2 4 (n := 4) (by decide), cp_s] at r1
  cases h : wp a1 32
  · rw [h] at c1 r1; exact ⟨-1, c1, r1⟩
  · rw [h, if_neg bt_ne] at c1 r1
    obtain ⟨c, hc, rfl⟩ := wp_of h (by omega)
    obtain ⟨p1, p2, p3⟩ := hC.2.2.2.2.2.1 c hc
    cases h2 : wp a2 (4 + 1)
    · rw [h2] at r1
      have g : ∀ j, j < 5 → ¬ a2 = nI j := fun j hj => wp_lit h2 (by omega) (by omega)
      rw [if_neg (show ¬ a2 = (0 : Int32) from g 0 (by omega)), if_neg (show ¬ a2 = (1 : Int32) from g 1 (by omega)), if_neg (show ¬ a2 = (2 : Int32) from g 2 (by omega)), if_neg (show ¬ a2 = (3 : Int32) from g 3 (by omega)), if_neg (show ¬ a2 = (4 : Int32) from g 4 (by omega))] at c1
      exact ⟨-1, c1, r1⟩
    · rw [h2, if_neg bt_ne] at r1
      obtain ⟨k, hk, rfl⟩ := wp_of h2 (by omega)
      rcases (by omega : k = 0 ∨ k = 1 ∨ k = 2 ∨ k = 3 ∨ k = 4) with rfl | rfl | rfl | rfl | rfl
      · rw [if_pos (by decide), gd_n hc (by omega), ix_n (by omega), p2] at c1
        rw [if_pos (by decide), show (39 : Int32) + nI c = nI (39 + c) from nI_add 39 c, gd_n (show 39 + c < 103 by omega) (by omega), ix_n (by omega), (hM.1.2.2.2.2.1 c hc).2] at r1
        exact ⟨_, c1, r1⟩
      · rw [if_neg (by decide), if_pos (by decide), gd_n hc (by omega), ix_n (by omega), p1] at c1
        rw [if_neg (by decide), if_pos (by decide), show (7 : Int32) + nI c = nI (7 + c) from nI_add 7 c, gd_n (show 7 + c < 103 by omega) (by omega), ix_n (by omega), (hM.1.2.2.2.2.1 c hc).1] at r1
        exact ⟨_, c1, r1⟩
      · rw [if_neg (by decide), if_neg (by decide), if_pos (by decide), c_peopleAt hC hB hc, mkN_sum] at c1
        rw [if_neg (by decide), if_neg (by decide), show nI 2 - (2 : Int32) = nI 0 by decide, r_atCell hM hB (by omega) hc (by omega)] at r1
        exact ⟨_, c1, r1⟩
      · rw [if_neg (by decide), if_neg (by decide), if_neg (by decide), if_pos (by decide), c_wellingAt hC hB (by omega) hc] at c1
        rw [if_neg (by decide), if_neg (by decide), show nI 3 - (2 : Int32) = nI 1 by decide, r_atCell hM hB (by omega) hc (by omega)] at r1
        have e : sumTo (fun p => if atB m c p = true then atVal 0 m 1 p else 0) (m.1 0 0) = sumTo (wellAt 0 m c) (m.1 0 0) := sumTo_congr (fun p _ => by
          unfold atB atVal wellAt
          by_cases q : m.1 8 p = c <;> simp [q])
        rw [e] at r1
        exact ⟨_, c1, r1⟩
      · rw [if_neg (by decide), if_neg (by decide), if_neg (by decide), if_neg (by decide), if_pos (by decide), c_disputesAt hC hB (by omega) hc] at c1
        rw [if_neg (by decide), if_neg (by decide), show nI 4 - (2 : Int32) = nI 2 by decide, r_atCell hM hB (by omega) hc (by omega)] at r1
        exact ⟨_, c1, r1⟩
theorem c_allWater {mu : Nat} (h : CM s b mu m) : f_X1_allWater b s = some (nI (sumTo (m.1 3) 32)) := by
  refine loopA (S := Unit) (fun n x i => L_X1_allWater_4 b s (fun e3 => some e3) n x i) (fun e3 => some e3) 32 (by omega) (fun i => nI (sumTo (m.1 3) i)) (fun n => ?_) (fun n i hi => ?_)
  · show B_X1_allWater_4 _ b s _ _ _ = _
    unfold B_X1_allWater_4
    exact if_pos (nI_le (Nat.le_refl 32) (by omega))
  · show B_X1_allWater_4 (L_X1_allWater_4 b s (fun e3 => some e3) n) b s _ _ _ = L_X1_allWater_4 b s (fun e3 => some e3) n (nI (sumTo (m.1 3) i + m.1 3 i)) _
    unfold B_X1_allWater_4
    rw [if_neg (by rw [li_32]; exact nI_ge hi (by omega)), gd_n hi (by omega), ix_n (by omega), (h.2.2.2.2.2.1 i hi).2.1, bn_e, nI_1, nI_add]
theorem c_allSure {mu : Nat} (h : CM s b mu m) (hb : BM m) : f_X1_allSure b s = some (nI (sumTo (m.1 7) (m.1 0 0))) := by
  have h8 := hb.1
  refine loopA (S := Unit) (fun n x i => L_X1_allSure_4 b s (fun e3 => some e3) n x i) (fun e3 => some e3) (m.1 0 0) (by omega) (fun i => nI (sumTo (m.1 7) i)) (fun n => ?_) (fun n i hi => ?_)
  · show B_X1_allSure_4 _ b s _ _ _ = _
    unfold B_X1_allSure_4
    rw [h.2.2.1]
    exact if_pos (nI_le (Nat.le_refl _) (by omega))
  · show B_X1_allSure_4 (L_X1_allSure_4 b s (fun e3 => some e3) n) b s _ _ _ = L_X1_allSure_4 b s (fun e3 => some e3) n (nI (sumTo (m.1 7) i + m.1 7 i)) _
    unfold B_X1_allSure_4
    rw [h.2.2.1, if_neg (nI_ge hi (by omega)), gd_n (show i < 8 by omega) (by omega), ix_n (by omega), (h.2.2.2.2.2.2 i hi).2.2.1, bn_e, nI_1, nI_add]
theorem r_allWater {mu : Nat} (h : MM s b mu m) (K : Int32 → Option Int32) : L_X4_state_45 b s K FU (0 : Int32) (0 : Int32) = K (nI (sumTo (m.1 3) 32)) := by
  refine loopA (S := Unit) (fun n x i => L_X4_state_45 b s K n x i) K 32 (by omega) (fun i => nI (sumTo (m.1 3) i)) (fun n => ?_) (fun n i hi => ?_)
  · show B_X4_state_45 _ b s _ _ _ = _
    unfold B_X4_state_45
    exact if_pos (nI_le (Nat.le_refl 32) (by omega))
  · show B_X4_state_45 (L_X4_state_45 b s K n) b s _ _ _ = L_X4_state_45 b s K n (nI (sumTo (m.1 3) i + m.1 3 i)) _
    unfold B_X4_state_45
    rw [if_neg (by rw [li_32]; exact nI_ge hi (by omega)), show (39 : Int32) + nI i = nI (39 + i) from nI_add 39 i, gd_n (show 39 + i < 103 by omega) (by omega), ix_n (by omega), (h.1.2.2.2.2.1 i hi).2, bn_e, nI_1, nI_add]
theorem r_allSure {mu : Nat} (h : MM s b mu m) (hb : BM m) (K : Int32 → Option Int32) : L_X4_state_78 b s K FU (0 : Int32) (0 : Int32) = K (nI (sumTo (m.1 7) (m.1 0 0))) := by
  have h8 := hb.1
  refine loopA (S := Unit) (fun n x i => L_X4_state_78 b s K n x i) K (m.1 0 0) (by omega) (fun i => nI (sumTo (m.1 7) i)) (fun n => ?_) (fun n i hi => ?_)
  · show B_X4_state_78 _ b s _ _ _ = _
    unfold B_X4_state_78
    rw [h.1.2.2.1]
    exact if_pos (nI_le (Nat.le_refl _) (by omega))
  · show B_X4_state_78 (L_X4_state_78 b s K n) b s _ _ _ = L_X4_state_78 b s K n (nI (sumTo (m.1 7) i + m.1 7 i)) _
    unfold B_X4_state_78
    rw [h.1.2.2.1, if_neg (nI_ge hi (by omega)), r_g2 h h8 hi, cp_s, bn_e, nI_1, nI_add]
theorem p_state (hC : CM s (b + 1) 0 m) (hM : MM s d 0 m) (hB : BM m) (a1 : Int32) : PP s (f_X3_state b a1) (f_X4_state d a1) := by
  unfold PP f_X3_state f_X4_state
  by_cases q0 : a1 = 0
  · subst q0
    rw [if_pos rfl, if_pos rfl, hC.1, hM.1.1]; exact ⟨_, rfl, rfl⟩
  rw [if_neg q0, if_neg q0]
  by_cases q1 : a1 = 1
  · subst q1
    rw [if_pos rfl, if_pos rfl, c_allWater hC, r_allWater hM]; exact ⟨_, rfl, rfl⟩
  rw [if_neg q1, if_neg q1]
  by_cases q2 : a1 = 2
  · subst q2
    rw [if_pos rfl, if_pos rfl, c_lostPeople hC hB, r_lost hM hB]; exact ⟨_, rfl, rfl⟩
  rw [if_neg q2, if_neg q2]
  by_cases q3 : a1 = 3
  · subst q3
    rw [if_pos rfl, if_pos rfl, c_allSure hC hB, r_allSure hM hB]; exact ⟨_, rfl, rfl⟩
  rw [if_neg q3, if_neg q3]
  by_cases q4 : a1 = 4
  · subst q4
    have e : sumTo (atVal 0 m 2) (m.1 0 0) = disAt 0 m (fun _ => true) := sumTo_congr (fun p _ => rfl)
    rw [if_pos rfl, if_pos rfl, c_disputes hC hB (by omega), li_2, r_atAll hM hB (by omega) (by omega), e]; exact ⟨_, rfl, rfl⟩
  rw [if_neg q4, if_neg q4]
  exact ⟨_, rfl, rfl⟩
end PAIRS4
