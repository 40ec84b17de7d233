/-! the class's Moor, small functions -/
section LEAFC
variable {s : St} {b mu : Nat} {m : MS}
theorem c_isWet (h : CM s b mu m) (hb : BM m) {c : Nat} (hc : c < 32) : f_X1_isWet b (nI c) s = some (bI (decide (10 ≤ m.1 3 c))) := by
  have h3 := (h.2.2.2.2.2.1 c hc).2.1
  have h9 := (hb.2.2.2.2.1 c hc).2
  unfold f_X1_isWet
  rw [gd_n hc (by omega), ix_n (by omega), h3, li_10]
  simp (disch := omega) only [nI_ltI]
  rw [ite_bI']
  congr 2
  by_cases q : m.1 3 c < 10 <;> simp [q] <;> omega
theorem c_isLost (h : CM s b mu m) (hb : BM m) {p : Nat} (hp : p < m.1 0 0) : f_X1_isLost b (nI p) s = some (bI (decide (m.1 7 p = 0))) := by
  have h3 := (h.2.2.2.2.2.2 p hp).2.2.1
  have h9 := (hb.2.2.2.2.2 p hp).2.2.1
  have h8 := hb.1
  unfold f_X1_isLost
  rw [gd_n (by omega) (by omega), ix_n (by omega), h3, li_0]
  simp (disch := omega) only [nI_eq]
  rw [← li_0, ite_bI]
theorem c_isIdle (h : CM s b mu m) (hmu : mu < 256) {p : Nat} (hp : p < 8) : f_X1_isIdle b (nI p) s = some (bI (mu.testBit p)) := by
  unfold f_X1_isIdle
  rw [h.2.2.2.1, bit_n (by omega) (by omega)]
  cases mu.testBit p <;> rfl
theorem mabs_n {x y : Nat} (hx : x ≤ 99) (hy : y ≤ 99) : (mabs (nI x - nI y) < nI 30) ↔ ¬ (x + 30 ≤ y ∨ y + 30 ≤ x) := by
  unfold mabs
  have e0 : (nI x - nI y).toInt = (x : Int) - y := pk_sub_toInt (by omega) (by omega)
  have e1 : (0 : Int32).toInt = 0 := rfl
  have e30 : (nI 30).toInt = 30 := nI_toInt (by omega)
  split
  · rename_i h
    rw [Int32.le_iff_toInt_le, e0, e1] at h
    rw [Int32.lt_iff_toInt_lt, e0, e30]
    omega
  · rename_i h
    rw [Int32.le_iff_toInt_le, e0, e1] at h
    have e2 : 0 - (nI x - nI y) = nI y - nI x := by
      apply Int32.toBitVec_inj.mp
      simp
    rw [e2, Int32.lt_iff_toInt_lt, pk_sub_toInt (by omega) (by omega), e30]
    omega
theorem c_disagree (h : CM s b mu m) (hb : BM m) (hmu : mu < 256) {p q : Nat} (hp : p < m.1 0 0) (hq : q < m.1 0 0) : f_X1_disagree b (nI p) (nI q) s = some (bI (disS mu m p q)) := by
  have h8 := hb.1
  obtain ⟨p1, p2, p3, p4⟩ := h.2.2.2.2.2.2 p hp
  obtain ⟨q1, q2, q3, q4⟩ := h.2.2.2.2.2.2 q hq
  obtain ⟨b1, b2, b3, b4⟩ := hb.2.2.2.2.2 p hp
  obtain ⟨d1, d2, d3, d4⟩ := hb.2.2.2.2.2 q hq
  unfold f_X1_disagree
  simp only [gd_n (show p < 8 by omega) (by omega), gd_n (show q < 8 by omega) (by omega), ix_n (show p < 2 ^ 31 by omega), ix_n (show q < 2 ^ 31 by omega), p3, p4, q3, q4, c_isLost h hb hp, c_isLost h hb hq, c_isIdle h hmu (show p < 8 by omega), c_isIdle h hmu (show q < 8 by omega), cp_s, bI_0, nI_eq (show m.1 8 p < 2 ^ 31 by omega) (show m.1 8 q < 2 ^ 31 by omega), li_30, mabs_n b3 d3, disS]
  by_cases a1 : m.1 8 p = m.1 8 q <;> by_cases a2 : m.1 7 p = 0 <;> by_cases a3 : m.1 7 q = 0 <;> cases mu.testBit p <;> cases mu.testBit q <;> by_cases a4 : m.1 7 p + 30 ≤ m.1 7 q ∨ m.1 7 q + 30 ≤ m.1 7 p <;> simp [a1, a2, a3, a4, bI, Nat.pos_iff_ne_zero]
theorem c_plain (h : CM s b mu m) (hb : BM m) {p : Nat} (hp : p < m.1 0 0) : gA s (b + 7) p = nI (m.1 7 p) ∧ m.1 7 p ≤ 99 := ⟨(h.2.2.2.2.2.2 p hp).2.2.1, (hb.2.2.2.2.2 p hp).2.2.1⟩
theorem n_half {n : Nat} (h : n < 2 ^ 31) : nI n / (2 : Int32) = nI (n / 2) := pk_div (d := 2) h (by omega) (by omega)
theorem dbl_n (a : Nat) : (2 : Int32) * nI a = nI (2 * a) := pk_mul 2 a
theorem c_welling (h : CM s b mu m) (hb : BM m) (hmu : mu < 256) {p : Nat} (hp : p < m.1 0 0) : f_X1_welling b (nI p) s = some (nI (wellS mu m p)) := by
  have h8 := hb.1
  obtain ⟨p1, p2, p3, p4⟩ := h.2.2.2.2.2.2 p hp
  obtain ⟨b1, b2, b3, b4⟩ := hb.2.2.2.2.2 p hp
  have l0 := h.2.2.2.2.1 0 (by omega)
  have y0 := h.1
  unfold f_X1_welling
  simp only [c_isIdle h hmu (show p < 8 by omega), c_isLost h hb hp, cp_s, bI_0, gd_n (show p < 8 by omega) (show 8 ≤ 5000 by omega), ix_n (show p < 2 ^ 31 by omega), p1, p2, p3, l0, y0, bn_e, li_50, nI_ltI (show m.1 7 p < 2 ^ 31 by omega) (show 50 < 2 ^ 31 by omega)]
  unfold wellS kindW doubS plainS evenY
  have hk : m.1 5 p = 0 ∨ m.1 5 p = 1 ∨ m.1 5 p = 2 ∨ m.1 5 p = 3 ∨ m.1 5 p = 4 ∨ m.1 5 p = 5 := by omega
  have z1 : nI (m.1 6 p) = 0 ↔ m.1 6 p = 0 := by rw [← nI_0]; exact nI_eq (by omega) (by omega)
  cases hm : mu.testBit p
  · by_cases a1 : m.1 7 p < 50
    · have a2 : ¬ 50 ≤ m.1 7 p := by omega
      by_cases a3 : m.1 7 p = 0
      · rcases hk with k | k | k | k | k | k <;> simp (decide := true) [k, a3, bI] <;> rfl
      · have a4 : 0 < m.1 7 p := by omega
        rcases hk with k | k | k | k | k | k <;> simp (decide := true) [k, a1, a2, a3, a4] <;> rfl
    · have a2 : 50 ≤ m.1 7 p := by omega
      have a3 : ¬ m.1 7 p = 0 := by omega
      have a4 : 0 < m.1 7 p := by omega
      by_cases a5 : m.1 6 p = 0
      · rcases hk with k | k | k | k | k | k <;> simp (decide := true) [k, a1, a2, a3, a4, a5, nI_0] <;> rfl
      · rcases hk with k | k | k | k | k | k <;> simp (decide := true) [k, a1, a2, a3, a4, a5, z1, dbl_n, nI_add, n_half (show m.1 6 p < 2 ^ 31 by omega)] <;> first | rfl | (split <;> rfl)
  · simp (decide := true) [bI_t]
theorem sn_15 : ∀ n, n < 10 → ((10 : Int32) + nI n) - 15 = nI n - nI 5 := by decide +kernel
theorem sn_16 : ∀ n, n < 10 → nI (15 + n) - nI 5 - 15 = nI n - nI 5 := by decide +kernel
theorem sn_10 : ∀ n, n < 10 → ((10 : Int32) + nI n) = nI (15 + n) - nI 5 := by decide +kernel
theorem c_losing (h : CM s b mu m) (hb : BM m) {p : Nat} (hp : p < m.1 0 0) : f_X1_losing b (nI p) s = some (nI (l5S m p) - nI 5) := by
  have h8 := hb.1
  obtain ⟨p1, p2, p3, p4⟩ := h.2.2.2.2.2.2 p hp
  obtain ⟨b1, b2, b3, b4⟩ := hb.2.2.2.2.2 p hp
  unfold f_X1_losing l5S
  simp only [gd_n (show p < 8 by omega) (show 8 ≤ 5000 by omega), ix_n (show p < 2 ^ 31 by omega), p1, p2, bn_e, sn_15 _ (show m.1 6 p < 10 by omega), sn_10 _ (show m.1 6 p < 10 by omega)]
  have hk : m.1 5 p = 0 ∨ m.1 5 p = 1 ∨ m.1 5 p = 2 ∨ m.1 5 p = 3 ∨ m.1 5 p = 4 ∨ m.1 5 p = 5 := by omega
  rcases hk with k | k | k | k | k | k <;> simp (decide := true) [k] <;> first | rfl | exact sn_16 _ (by omega)
theorem c_winning (h : CM s b mu m) (hb : BM m) {p : Nat} (hp : p < m.1 0 0) : f_X1_winning b (nI p) s = some (nI (winS m p)) := by
  have h8 := hb.1
  obtain ⟨p1, p2, p3, p4⟩ := h.2.2.2.2.2.2 p hp
  obtain ⟨b1, b2, b3, b4⟩ := hb.2.2.2.2.2 p hp
  unfold f_X1_winning winS
  simp only [gd_n (show p < 8 by omega) (show 8 ≤ 5000 by omega), ix_n (show p < 2 ^ 31 by omega), p1, bn_e]
  have hk : m.1 5 p = 0 ∨ m.1 5 p = 1 ∨ m.1 5 p = 2 ∨ m.1 5 p = 3 ∨ m.1 5 p = 4 ∨ m.1 5 p = 5 := by omega
  rcases hk with k | k | k | k | k | k <;> simp (decide := true) [k] <;> rfl
/-- the heights alone -/
def CH (s : St) (b : Nat) (h : Nat → Nat) : Prop := ∀ c, c < 32 → gA s (b + 2) c = nI (h c) ∧ h c ≤ 9
theorem CH.of (h : CM s b mu m) (hb : BM m) : CH s b (m.1 2) := fun c hc => ⟨(h.2.2.2.2.2.1 c hc).1, (hb.2.2.2.2.1 c hc).1⟩
theorem c_lower {h : Nat → Nat} (hh : CH s b h) {x y : Nat} (hx : x < 32) (hy : y < 32) : f_X1_lower b (nI x) (nI y) s = some (nI (lowStep h x true y)) := by
  obtain ⟨e1, e2⟩ := hh x hx
  obtain ⟨e3, e4⟩ := hh y hy
  unfold f_X1_lower lowStep
  simp only [gd_n hx (show 32 ≤ 5000 by omega), gd_n hy (show 32 ≤ 5000 by omega), ix_n (show x < 2 ^ 31 by omega), ix_n (show y < 2 ^ 31 by omega), e1, e3, nI_leI (show h x < 2 ^ 31 by omega) (show h y < 2 ^ 31 by omega)]
  by_cases q : h x ≤ h y
  · have q2 : ¬ h y < h x := by omega
    simp [q, q2]
  · have q2 : h y < h x := by omega
    simp [q, q2]
theorem col_n : ∀ c, c < 32 → nI c - nI c / (8 : Int32) * (8 : Int32) = nI (c % 8) := by decide +kernel
theorem lowStep_lt {h : Nat → Nat} {x o : Nat} {ok : Bool} (hx : x < 32) (ho : ok = true → o < 32) : lowStep h x ok o < 32 := by
  unfold lowStep
  split
  · rename_i q; exact ho q.1
  · exact hx
theorem lowS_lt {h : Nat → Nat} {c : Nat} (hc : c < 32) : lowS h c < 32 := by
  unfold lowS
  refine lowStep_lt (lowStep_lt (lowStep_lt (lowStep_lt hc ?_) ?_) ?_) ?_
  · intro q; omega
  · intro q; omega
  · intro q; have := of_decide_eq_true q; omega
  · intro q; have := of_decide_eq_true q; omega
theorem c_lowestBeside {h : Nat → Nat} (hh : CH s b h) {c : Nat} (hc : c < 32) : f_X1_lowestBeside b (nI c) s = some (lowI h c (-1)) := by
  have hc8 : c % 8 < 8 := Nat.mod_lt _ (by decide)
  have e1 : (if nI c < (8 : Int32) then some (nI c) else f_X1_lower b (nI c) (nI c - (8 : Int32)) s) = some (nI (lowStep h c (decide (8 ≤ c)) (c - 8))) := by
    rw [li_8]
    simp only [nI_ltI (show c < 2 ^ 31 by omega) (show 8 < 2 ^ 31 by omega)]
    by_cases q : c < 8
    · have q2 : ¬ 8 ≤ c := by omega
      simp [q, q2, lowStep]
    · have q2 : 8 ≤ c := by omega
      rw [if_neg q, pk_sub q2, c_lower hh hc (by omega)]
      simp [q2]
  have a1 : lowStep h c (decide (8 ≤ c)) (c - 8) < 32 := lowStep_lt hc (fun _ => by omega)
  generalize ex : lowStep h c (decide (8 ≤ c)) (c - 8) = x1 at e1 a1
  have e2 : (if (nI (c % 8)) ≤ 0 then some (nI x1) else f_X1_lower b (nI x1) (nI c - (1 : Int32)) s) = some (nI (lowStep h x1 (decide (0 < c % 8)) (c - 1))) := by
    rw [li_0, li_1]
    simp only [nI_leI (show c % 8 < 2 ^ 31 by omega) (show 0 < 2 ^ 31 by omega)]
    by_cases q : c % 8 ≤ 0
    · have q2 : ¬ 0 < c % 8 := by omega
      simp [q, q2, lowStep]
    · have q2 : 0 < c % 8 := by omega
      rw [if_neg q, pk_sub (show 1 ≤ c by omega), c_lower hh a1 (by omega)]
      simp [q2]
  have a2 : lowStep h x1 (decide (0 < c % 8)) (c - 1) < 32 := lowStep_lt a1 (fun _ => by omega)
  have e3 : ∀ x2, x2 < 32 → (if (7 : Int32) ≤ nI (c % 8) then some (nI x2) else f_X1_lower b (nI x2) (nI c + (1 : Int32)) s) = some (nI (lowStep h x2 (decide (c % 8 < 7)) (c + 1))) := by
    intro x2 hx2
    rw [li_7, nI_1]
    simp only [nI_leI (show 7 < 2 ^ 31 by omega) (show c % 8 < 2 ^ 31 by omega)]
    by_cases q : 7 ≤ c % 8
    · have q2 : ¬ c % 8 < 7 := by omega
      simp [q, q2, lowStep]
    · have q2 : c % 8 < 7 := by omega
      rw [if_neg q, c_lower hh hx2 (by omega)]
      simp [q2]
  have e4 : ∀ x3, x3 < 32 → (if (24 : Int32) ≤ nI c then some (nI x3) else f_X1_lower b (nI x3) (nI c + (8 : Int32)) s) = some (nI (lowStep h x3 (decide (c < 24)) (c + 8))) := by
    intro x3 hx3
    rw [li_24, li_8, nI_add]
    simp only [nI_leI (show 24 < 2 ^ 31 by omega) (show c < 2 ^ 31 by omega)]
    by_cases q : 24 ≤ c
    · have q2 : ¬ c < 24 := by omega
      simp [q, q2, lowStep]
    · have q2 : c < 24 := by omega
      rw [if_neg q, c_lower hh hx3 (by omega)]
      simp [q2]
  have a3 : lowStep h (lowStep h x1 (decide (0 < c % 8)) (c - 1)) (decide (c % 8 < 7)) (c + 1) < 32 := lowStep_lt a2 (fun q => by have := of_decide_eq_true q; omega)
  have a4 : lowS h c < 32 := lowS_lt hc
  unfold lowI
  have eL : lowS h c = lowStep h (lowStep h (lowStep h x1 (decide (0 < c % 8)) (c - 1)) (decide (c % 8 < 7)) (c + 1)) (decide (c < 24)) (c + 8) := by unfold lowS; rw [ex]
  unfold f_X1_lowestBeside
  simp only [col_n c hc]
  rw [bn_ifcp, e1, cp_s, bn_ifcp, e2, cp_s, bn_ifcp, e3 _ a2, cp_s, bn_ifcp, e4 _ a3, cp_s, ← eL]
  simp only [nI_eq (show lowS h c < 2 ^ 31 by omega) (show c < 2 ^ 31 by omega)]
  split <;> rfl
/-! the year, in the class -/
theorem c_pour (w : Nat → Nat) {c x : Nat} (hc : c < 32) (hw : gA s (b + 3) c = nI (w c)) (hx : w c + x < 2 ^ 31) : f_X1_pour b (nI c) (nI x) s = some (pA s (b + 3) c (nI (min 99 (w c + x)))) := by
  unfold f_X1_pour
  simp only [gd_n hc (show 32 ≤ 5000 by omega), ix_n (show c < 2 ^ 31 by omega), bn_e, hw, nI_add, mmin, li_99, nI_ltI hx (show 99 < 2 ^ 31 by omega)]
  congr 2
  by_cases q : w c + x < 99
  · rw [if_pos q, show min 99 (w c + x) = w c + x by omega]
  · rw [if_neg q, show min 99 (w c + x) = 99 by omega]
end LEAFC
