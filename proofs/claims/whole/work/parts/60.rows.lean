/-! rows and sheets on both sides -/
/-- the rows lie alike -/
def XR (s : St) (b d : Nat) : Prop := ∃ n, n ≤ 10 ∧ gF s b 6 = nI n ∧ gF s d 15 = nI n ∧ ∀ i, i < n → ∀ w, w < 3 → gA s ((b + 31) + i) w = gA s (d + 7) (3 * i + w)
/-- the sheets lie alike -/
def XS (s : St) (b d : Nat) : Prop := ∀ k, k < 4 → ∃ j z, j ≤ 4 ∧ z ≤ 40 ∧ gA s (b + 41) k = nI j - 1 ∧ gA s (d + 8) k = nI j ∧ gA s (b + 42) k = nI z ∧ gA s (d + 9) k = nI z ∧ ∀ i, i < 40 → gL s ((b + 44) + k) i = gL s (d + 10) (40 * k + i)
section ROWS
variable {s : St} {b d : Nat}
theorem c_isRowPart {n : Nat} (h : gF s b 6 = nI n) (hn : n ≤ 10) (a1 a2 : Int32) : f_X3_isRowPart b a1 a2 s = some (bI (wp a1 n && wp a2 3)) := by
  unfold f_X3_isRowPart
  rw [h]
  have e1 := ch_wp (a := a1) (M := nI n) (nI_toInt (by omega))
  have e2 := ch_wp (a := a2) (M := (3 : Int32)) (n := 3) (by decide)
  rw [e2]
  by_cases h1 : a1 < 0
  · rw [if_pos h1] at e1 ⊢
    have : wp a1 n = false := by
      cases q : wp a1 n
      · rfl
      · rw [q] at e1; cases e1
    rw [this]; rfl
  · rw [if_neg h1] at e1 ⊢
    by_cases h2 : nI n ≤ a1
    · rw [if_pos h2] at e1 ⊢
      have : wp a1 n = false := by
        cases q : wp a1 n
        · rfl
        · rw [q] at e1; cases e1
      rw [this]; rfl
    · rw [if_neg h2] at e1 ⊢
      have : wp a1 n = true := by
        cases q : wp a1 n
        · rw [q] at e1; cases e1
        · rfl
      rw [this, Bool.true_and]
theorem r_inBelow (a : Int32) {n : Nat} (hn : n ≤ 2 ^ 20) : f_X4_in (a).toInt64 (0 : Int64) ((nI n - (1 : Int32))).toInt64 = some (bI (wp a n)) := by
  rw [r_in]
  have e : (nI n - (1 : Int32)).toInt = (n : Int) - 1 := pk_sub_toInt (b := 1) (by omega) (by omega)
  have e2 : (decide ((0 : Int64) ≤ a.toInt64 ∧ a.toInt64 ≤ (nI n - (1 : Int32)).toInt64)) = wp a n := by
    unfold wp
    apply decide_eq_decide.mpr
    rw [Int64.le_iff_toInt_le, Int64.le_iff_toInt_le, Int32.toInt_toInt64, Int32.toInt_toInt64, e, show (0 : Int64).toInt = 0 from rfl]
    constructor <;> rintro ⟨h1, h2⟩ <;> exact ⟨h1, by omega⟩
  rw [e2]
theorem ix3 (i w : Nat) : (3 : Int32) * nI i + nI w = nI (3 * i + w) := by
  rw [show (3 : Int32) * nI i = nI (3 * i) from pk_mul 3 i, nI_add]
theorem ix40 (i w : Nat) : (40 : Int32) * nI i + nI w = nI (40 * i + w) := by
  rw [show (40 : Int32) * nI i = nI (40 * i) from pk_mul 40 i, nI_add]
theorem p_row (hX : XR s b d) (a1 a2 : Int32) : PP s (f_X3_row b a1 a2) (f_X4_row d a1 a2) := by
  obtain ⟨n, hn, h1, h2, h3⟩ := hX
  unfold PP f_X3_row f_X4_row
  rw [c_isRowPart h1 hn, cp_s, h2, r_inBelow a1 (by omega), cp_s, r_inN a2 2 (n := 2) (by decide), cp_s, show (2 + 1 : Nat) = 3 from rfl]
  cases q : wp a1 n
  · exact ⟨-9, rfl, rfl⟩
  cases q2 : wp a2 3
  · exact ⟨-9, rfl, rfl⟩
  obtain ⟨i, hi, rfl⟩ := wp_of q (by omega)
  obtain ⟨w, hw, rfl⟩ := wp_of q2 (by omega)
  rw [if_neg (show ¬ bI (true && true) = 0 by decide), if_neg bt_ne, if_neg bt_ne, gd_n (show i < 10 by omega) (by omega), gd_n hw (by omega), ix_n (by omega), ix_n (by omega), ix3, gd_n (show 3 * i + w < 30 by omega) (by omega), ix_n (by omega), h3 i (by omega) w hw]
  exact ⟨_, rfl, rfl⟩
/-- what the rows' pairs touch -/
def wRow (b d : Nat) : Nat → Prop := fun k => (b + 31 ≤ k ∧ k ≤ b + 40) ∨ k = d + 7
theorem p_alterRow (hd : d = b + 53) (hX : XR s b d) (a1 a2 a3 : Int32) : ∃ x s1 s2, f_X3_alterRow b a1 a2 a3 s = some (x, s1) ∧ f_X4_alterRow d a1 a2 a3 s1 = some (x, s2) ∧ XR s2 b d ∧ Fr (wRow b d) s s2 := by
  obtain ⟨n, hn, h1, h2, h3⟩ := hX
  have c1 := f_X3_alterRow.eq_1 b a1 a2 a3 s
  rw [c_isRowPart h1 hn, cp_s] at c1
  have r1 : ∀ t, gF t d 15 = nI n → f_X4_alterRow d a1 a2 a3 t = _ := fun t ht => by unfold f_X4_alterRow; rw [ht, r_inBelow a1 (by omega), cp_s, r_inN a2 2 (n := 2) (by decide), cp_s, show (2 + 1 : Nat) = 3 from rfl]
  cases q : wp a1 n
  · rw [q] at c1
    exact ⟨-9, s, s, c1, by rw [r1 s h2, q]; rfl, ⟨n, hn, h1, h2, h3⟩, Fr.rf⟩
  cases q2 : wp a2 3
  · rw [q, q2] at c1
    exact ⟨-9, s, s, c1, by rw [r1 s h2, q, q2]; rfl, ⟨n, hn, h1, h2, h3⟩, Fr.rf⟩
  obtain ⟨i, hi, rfl⟩ := wp_of q (by omega)
  obtain ⟨w, hw, rfl⟩ := wp_of q2 (by omega)
  rw [q, q2, if_neg (show ¬ bI (true && true) = 0 by decide), gd_n (show i < 10 by omega) (by omega), gd_n hw (by omega), ix_n (by omega), ix_n (by omega), bn_e, gd_n (show i < 10 by omega) (by omega), gd_n hw (by omega), bn_e] at c1
  refine ⟨_, _, pA (pA s ((b + 31) + i) w a3) (d + 7) (3 * i + w) a3, c1, ?_, ⟨n, hn, h1, h2, fun x hx y hy => ?_⟩, (Fr.pA (Or.inl ⟨by omega, by omega⟩)).tr (Fr.pA (Or.inr rfl))⟩
  · rw [r1 (pA s ((b + 31) + i) w a3) h2, q, q2, if_neg bt_ne, if_neg bt_ne, ix3, gd_n (show 3 * i + w < 30 by omega) (by omega), ix_n (by omega), bn_e, gd_n (show 3 * i + w < 30 by omega) (by omega), bn_e, gA_pA, if_neg (by omega), h3 i (by omega) w hw]
  · rw [gA_pA, if_neg (by omega), gA_pA, gA_pA]
    by_cases z : x = i ∧ y = w
    · rw [if_pos ⟨by omega, z.2⟩, if_pos ⟨rfl, by omega⟩]
    · rw [if_neg (by omega), if_neg (by omega), gA_pA, if_neg (by omega)]
      exact h3 x hx y hy
theorem c_isSheet (a : Int32) : f_X3_isSheet a = some (bI (wp a 4)) := ch_wp (by decide)
theorem c_isSort (a : Int32) : f_X3_isSort a = some (bI (wp a 4)) := ch_wp (by decide)
theorem r_isSheet (a : Int32) : f_X4_isSheet a = some (bI (wp a 4)) := by
  unfold f_X4_isSheet
  rw [r_inN a 3 (n := 3) (by decide), cp_s, zb_bI, gd_t]
theorem sort_0 : ∀ j, j < 5 → ((nI j - 1 = (-1 : Int32)) ↔ j = 0) ∧ ((nI j = 0) ↔ j = 0) := by decide +kernel
theorem sort_e : ∀ j, j < 5 → ∀ k, k < 4 → ((nI j - 1 = nI k) ↔ j = k + 1) ∧ ((nI j = nI k + 1) ↔ j = k + 1) := by decide +kernel
theorem p_item (hX : XS s b d) (a1 a2 a3 : Int32) : PP s (f_X3_item b a1 a2 a3) (f_X4_item d a1 a2 a3) := by
  unfold PP f_X3_item f_X4_item
  rw [c_isSheet, cp_s, r_isSheet, cp_s, c_isSort, cp_s, r_inN a2 3 (n := 3) (by decide), cp_s, show (3 + 1 : Nat) = 4 from rfl]
  cases q : wp a1 4
  · exact ⟨-1, rfl, rfl⟩
  rw [if_neg bt_ne, if_neg bt_ne]
  cases q2 : wp a2 4
  · exact ⟨-1, rfl, rfl⟩
  obtain ⟨k, hk, rfl⟩ := wp_of q (by omega)
  obtain ⟨w, hw, rfl⟩ := wp_of q2 (by omega)
  obtain ⟨j, z, hj, hz, h1, h2, h3, h4, h5⟩ := hX k hk
  obtain ⟨e1, e2⟩ := sort_0 j (by omega)
  obtain ⟨e3, e4⟩ := sort_e j (by omega) w hw
  have gk : ∀ {α : Type} (o : Option α), gd (ib (nI k) 4) o = o := fun o => gd_n hk (by omega)
  rw [if_neg bt_ne, if_neg bt_ne]
  simp only [gk]
  rw [ix_n (by omega), h1, h2]
  by_cases y : j = 0
  · rw [if_pos (e1.mpr y), if_pos (e2.mpr y)]; exact ⟨_, rfl, rfl⟩
  rw [if_neg (fun t => y (e1.mp t)), if_neg (fun t => y (e2.mp t))]
  by_cases y2 : j = w + 1
  · rw [if_pos (e3.mpr y2), if_pos (e4.mpr y2), h3, h4, r_inBelow a3 (by omega), cp_s]
    have ec := ch_wp (a := a3) (M := nI z) (nI_toInt (by omega))
    cases q3 : wp a3 z
    · rw [q3] at ec
      rw [if_pos bf_eq]
      refine ⟨-12, ?_, rfl⟩
      by_cases t1 : a3 < 0
      · rw [if_pos t1]
      · rw [if_neg t1] at ec ⊢
        by_cases t2 : nI z ≤ a3
        · rw [if_neg (fun t => by rw [Int32.lt_iff_toInt_lt] at t; rw [Int32.le_iff_toInt_le] at t2; omega)]
        · rw [if_neg t2] at ec; cases ec
    · obtain ⟨i, hi, rfl⟩ := wp_of q3 (by omega)
      rw [if_neg (nI_pos (by omega)), if_neg bt_ne, if_pos (nI_lt hi (by omega)), gd_n (show i < 40 by omega) (by omega), ix_n (by omega), ix40, gd_n (show 40 * k + i < 160 by omega) (by omega), ix_n (by omega), h5 i (by omega)]
      exact ⟨_, rfl, rfl⟩
  · rw [if_neg (fun t => y2 (e3.mp t)), if_neg (fun t => y2 (e4.mp t))]; exact ⟨_, rfl, rfl⟩
end ROWS
