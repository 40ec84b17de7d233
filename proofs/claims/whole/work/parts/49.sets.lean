/-! small sets of people, as numbers -/
def mkN (P : Nat → Bool) : Nat → Nat
  | 0 => 0
  | n + 1 => if P n = true then mkN P n + 2 ^ n else mkN P n
def cnN (P : Nat → Bool) : Nat → Nat
  | 0 => 0
  | n + 1 => if P n = true then cnN P n + 1 else cnN P n
theorem mkN_lt (P : Nat → Bool) : ∀ n, mkN P n < 2 ^ n
  | 0 => by simp [mkN]
  | n + 1 => by
    have := mkN_lt P n
    have e : 2 ^ (n + 1) = 2 ^ n + 2 ^ n := by rw [Nat.pow_succ]; omega
    unfold mkN
    split <;> omega
theorem mkN_congr {P Q : Nat → Bool} : ∀ {n : Nat}, (∀ i, i < n → P i = Q i) → mkN P n = mkN Q n
  | 0, _ => rfl
  | n + 1, h => by
    have e := mkN_congr (n := n) (fun i hi => h i (by omega))
    unfold mkN
    rw [e, h n (by omega)]
theorem cnN_congr {P Q : Nat → Bool} : ∀ {n : Nat}, (∀ i, i < n → P i = Q i) → cnN P n = cnN Q n
  | 0, _ => rfl
  | n + 1, h => by
    have e := cnN_congr (n := n) (fun i hi => h i (by omega))
    unfold cnN
    rw [e, h n (by omega)]
theorem cnN_sum (P : Nat → Bool) : ∀ n, cnN P n = sumTo (fun i => if P i = true then 1 else 0) n
  | 0 => rfl
  | n + 1 => by simp only [cnN, sumTo, cnN_sum P n]; split <;> rfl
theorem cnN_le (P : Nat → Bool) : ∀ n, cnN P n ≤ n
  | 0 => Nat.le_refl _
  | n + 1 => by
    have := cnN_le P n
    unfold cnN; split <;> omega
theorem mkN_bit (P : Nat → Bool) : ∀ (n i : Nat), (mkN P n).testBit i = (decide (i < n) && P i)
  | 0, i => by simp [mkN]
  | n + 1, i => by
    have ih := mkN_bit P n
    have hl := mkN_lt P n
    unfold mkN
    by_cases h : P n = true
    · rw [if_pos h, show mkN P n + 2 ^ n = 2 ^ n * 1 + mkN P n by omega, Nat.two_pow_add_eq_or_of_lt hl, Nat.testBit_or, Nat.mul_one, Nat.testBit_two_pow, ih i]
      by_cases q : i = n
      · subst q
        simp [h]
      · by_cases q2 : i < n
        · have q3 : i < n + 1 := by omega
          have q4 : ¬ n = i := by omega
          simp [q2, q3, q4]
        · have q3 : ¬ i < n + 1 := by omega
          have q4 : ¬ n = i := by omega
          simp [q2, q3, q4]
    · rw [if_neg h, ih i]
      have h' : P n = false := by simpa using h
      by_cases q : i = n
      · subst q; simp [h']
      · by_cases q2 : i < n
        · have q3 : i < n + 1 := by omega
          simp [q2, q3]
        · have q3 : ¬ i < n + 1 := by omega
          simp [q2, q3]
theorem or_n : ∀ i, i < 8 → ∀ k, k < 2 ^ i → (nI k ||| ((1 : Int32) <<< (nI i &&& 31))) = nI (k + 2 ^ i) := by decide +kernel
theorem or_0 : ∀ k, k < 256 → (nI k ||| (0 : Int32)) = nI k := by decide +kernel
theorem shl_n : ∀ i, i < 8 → ((1 : Int32) <<< (nI i &&& 31)) = nI (2 ^ i) := by decide +kernel
def popN (k : Nat) : Nat := cnN (fun i => k.testBit i) 8
theorem bitc_n : ∀ k, k < 256 → f_J6_bitCount_0f7a4 (nI k) = some (nI (popN k)) := by decide +kernel
theorem bits_n : ∀ k, k < 256 → f_X4_bits (nI k) = some (nI (popN k)) := by decide +kernel
theorem pop_mk (P : Nat → Bool) {n : Nat} (hn : n ≤ 8) : popN (mkN P n) = cnN P n := by
  have e : ∀ j, n ≤ j → cnN (fun i => (mkN P n).testBit i) j = cnN P n := by
    intro j hj
    induction j with
    | zero => have : n = 0 := by omega
              subst this; rfl
    | succ j ih =>
      by_cases q : n = j + 1
      · rw [← q]
        exact cnN_congr (fun i hi => by rw [mkN_bit, decide_eq_true hi, Bool.true_and])
      · show (if (mkN P n).testBit j = true then cnN (fun i => (mkN P n).testBit i) j + 1 else cnN (fun i => (mkN P n).testBit i) j) = cnN P n
        rw [ih (by omega), if_neg]
        rw [mkN_bit, decide_eq_false (by omega)]
        simp
  exact e 8 hn
/-- a loop that looks at i = 0, 1, .., N-1, one number carried along -/
theorem loopA {S R : Type} (L : Nat → Int32 → Int32 → Option R) (K : Int32 → Option R) (N : Nat) (hN : N < 999) (a : Nat → Int32) (hx : ∀ n, L (n + 1) (a N) (nI N) = K (a N)) (hs : ∀ n i, i < N → L (n + 1) (a i) (nI i) = L n (a (i + 1)) (nI (i + 1))) : L FU (a 0) (0 : Int32) = K (a N) := by
  have key : ∀ (k i n : Nat), i + k = N → k < n → L n (a i) (nI i) = K (a N) := by
    intro k
    induction k with
    | zero =>
      intro i n hi hn
      obtain ⟨n, rfl⟩ : ∃ j, n = j + 1 := ⟨n - 1, by omega⟩
      have : i = N := by omega
      subst this
      exact hx n
    | succ k ih =>
      intro i n hi hn
      obtain ⟨n, rfl⟩ : ∃ j, n = j + 1 := ⟨n - 1, by omega⟩
      rw [hs n i (by omega)]
      exact ih (i + 1) n (by omega) (by omega)
  have := key N 0 FU (by omega) (by show N < 1000; omega)
  rwa [nI_0] at this
theorem loopA' {X R : Type} (L : Nat → X → Int32 → Option R) (K : X → Option R) (N : Nat) (hN : N < 999) (a : Nat → X) (hx : ∀ n, L (n + 1) (a N) (nI N) = K (a N)) (hs : ∀ n i, i < N → L (n + 1) (a i) (nI i) = L n (a (i + 1)) (nI (i + 1))) : L FU (a 0) (0 : Int32) = K (a N) := by
  have key : ∀ (k i n : Nat), i + k = N → k < n → L n (a i) (nI i) = K (a N) := by
    intro k
    induction k with
    | zero =>
      intro i n hi hn
      obtain ⟨n, rfl⟩ : ∃ j, n = j + 1 := ⟨n - 1, by omega⟩
      have : i = N := by omega
      subst this
      exact hx n
    | succ k ih =>
      intro i n hi hn
      obtain ⟨n, rfl⟩ : ∃ j, n = j + 1 := ⟨n - 1, by omega⟩
      rw [hs n i (by omega)]
      exact ih (i + 1) n (by omega) (by omega)
  have := key N 0 FU (by omega) (by show N < 1000; omega)
  rwa [nI_0] at this
section SETS
variable {s : St} {b mu : Nat} {m : MS}
theorem mkN8 (P : Nat → Bool) {n : Nat} (hn : n ≤ 8) : mkN P n < 256 := Nat.lt_of_lt_of_le (mkN_lt P n) (Nat.pow_le_pow_right (by omega) hn)
theorem disS_self (mu : Nat) (m : MS) (p : Nat) : disS mu m p p = false := by
  unfold disS
  apply decide_eq_false
  rintro ⟨_, _, _, _, _, h⟩
  omega
theorem c_opponents (h : CM s b mu m) (hb : BM m) (hmu : mu < 256) {p : Nat} (hp : p < m.1 0 0) : f_X1_opponents b (nI p) s = some (nI (mkN (disS mu m p) (m.1 0 0))) := by
  have h8 := hb.1
  refine loopA (S := Unit) (fun n c i => L_X1_opponents_4 b (nI p) s (fun e3 => some e3) n c i) (fun e3 => some e3) (m.1 0 0) (by omega) (fun i => nI (mkN (disS mu m p) i)) (fun n => ?_) (fun n i hi => ?_)
  · show B_X1_opponents_4 _ b (nI p) s _ _ _ = _
    unfold B_X1_opponents_4
    rw [h.2.2.1]
    exact if_pos (nI_le (Nat.le_refl _) (by omega))
  · show B_X1_opponents_4 (L_X1_opponents_4 b (nI p) s (fun e3 => some e3) n) b (nI p) s _ _ _ = L_X1_opponents_4 b (nI p) s (fun e3 => some e3) n _ _
    unfold B_X1_opponents_4
    rw [h.2.2.1, if_neg (nI_ge hi (by omega)), c_disagree h hb hmu hp hi, cp_s, bn_e, nI_1]
    show _ = L_X1_opponents_4 b (nI p) s (fun e3 => some e3) n (nI (if disS mu m p i = true then mkN (disS mu m p) i + 2 ^ i else mkN (disS mu m p) i)) (nI (i + 1))
    dsimp only
    cases q : disS mu m p i
    · rw [if_pos bf_eq, if_neg Bool.false_ne_true]
    · rw [if_neg bt_ne, if_pos (rfl : true = true), bn_e, or_n i (by omega) _ (mkN_lt _ _)]
theorem r_foesOf (h : MM s b mu m) (hb : BM m) (hmu : mu < 256) {p : Nat} (hp : p < m.1 0 0) : f_X4_foesOf b (nI p) s = some (nI (mkN (disS mu m p) (m.1 0 0))) := by
  have h8 := hb.1
  refine loopA (S := Unit) (fun n c i => L_X4_foesOf_4 b (nI p) s (fun e3 => some e3) n c i) (fun e3 => some e3) (m.1 0 0) (by omega) (fun i => nI (mkN (disS mu m p) i)) (fun n => ?_) (fun n i hi => ?_)
  · show B_X4_foesOf_4 _ b (nI p) s _ _ _ = _
    unfold B_X4_foesOf_4
    rw [h.1.2.2.1]
    exact if_pos (nI_le (Nat.le_refl _) (by omega))
  · show B_X4_foesOf_4 (L_X4_foesOf_4 b (nI p) s (fun e3 => some e3) n) b (nI p) s _ _ _ = L_X4_foesOf_4 b (nI p) s (fun e3 => some e3) n _ _
    have ed : (decide (p ≠ i) && disS mu m p i) = disS mu m p i := by
      by_cases q : p = i
      · subst q; rw [disS_self]; simp
      · simp [q]
    unfold B_X4_foesOf_4
    rw [h.1.2.2.1, if_neg (nI_ge hi (by omega)), r_doDisagree h hb hmu hp hi, ed, cp_s, bn_e, nI_1]
    show _ = L_X4_foesOf_4 b (nI p) s (fun e3 => some e3) n (nI (if disS mu m p i = true then mkN (disS mu m p) i + 2 ^ i else mkN (disS mu m p) i)) (nI (i + 1))
    dsimp only
    cases q : disS mu m p i
    · rw [if_pos bf_eq, if_neg Bool.false_ne_true, bn_e, or_0 _ (mkN8 _ (by omega))]
    · rw [if_neg bt_ne, if_pos (rfl : true = true), bn_e, or_n i (by omega) _ (mkN_lt _ _)]
def lostB (m : MS) (p : Nat) : Bool := decide (m.1 7 p = 0)
theorem c_lostPeople (h : CM s b mu m) (hb : BM m) : f_X1_lostPeople b s = some (nI (mkN (lostB m) (m.1 0 0))) := by
  have h8 := hb.1
  refine loopA (S := Unit) (fun n c i => L_X1_lostPeople_4 b s (fun e3 => some e3) n c i) (fun e3 => some e3) (m.1 0 0) (by omega) (fun i => nI (mkN (lostB m) i)) (fun n => ?_) (fun n i hi => ?_)
  · show B_X1_lostPeople_4 _ b s _ _ _ = _
    unfold B_X1_lostPeople_4
    rw [h.2.2.1]
    exact if_pos (nI_le (Nat.le_refl _) (by omega))
  · show B_X1_lostPeople_4 (L_X1_lostPeople_4 b s (fun e3 => some e3) n) b s _ _ _ = L_X1_lostPeople_4 b s (fun e3 => some e3) n _ _
    unfold B_X1_lostPeople_4
    rw [h.2.2.1, if_neg (nI_ge hi (by omega)), c_isLost h hb hi, cp_s, bn_e, nI_1]
    show _ = L_X1_lostPeople_4 b s (fun e3 => some e3) n (nI (if lostB m i = true then mkN (lostB m) i + 2 ^ i else mkN (lostB m) i)) (nI (i + 1))
    rw [show decide (m.1 7 i = 0) = lostB m i from rfl]
    dsimp only
    cases q : lostB m i
    · rw [if_pos bf_eq, if_neg Bool.false_ne_true]
    · rw [if_neg bt_ne, if_pos (rfl : true = true), bn_e, or_n i (by omega) _ (mkN_lt _ _)]
theorem r_lost (h : MM s b mu m) (hb : BM m) : f_X4_lost b s = some (nI (mkN (lostB m) (m.1 0 0))) := by
  have h8 := hb.1
  refine loopA (S := Unit) (fun n c i => L_X4_lost_4 b s (fun e3 => some e3) n c i) (fun e3 => some e3) (m.1 0 0) (by omega) (fun i => nI (mkN (lostB m) i)) (fun n => ?_) (fun n i hi => ?_)
  · show B_X4_lost_4 _ b s _ _ _ = _
    unfold B_X4_lost_4
    rw [h.1.2.2.1]
    exact if_pos (nI_le (Nat.le_refl _) (by omega))
  · show B_X4_lost_4 (L_X4_lost_4 b s (fun e3 => some e3) n) b s _ _ _ = L_X4_lost_4 b s (fun e3 => some e3) n _ _
    have b7 := (hb.2.2.2.2.2 i hi).2.2.1
    have z : (nI (m.1 7 i) = 0) ↔ m.1 7 i = 0 := by rw [← nI_0]; exact nI_eq (by omega) (by omega)
    unfold B_X4_lost_4
    rw [h.1.2.2.1, if_neg (nI_ge hi (by omega)), r_g2 h h8 hi, cp_s, bn_e, nI_1]
    show _ = L_X4_lost_4 b s (fun e3 => some e3) n (nI (if lostB m i = true then mkN (lostB m) i + 2 ^ i else mkN (lostB m) i)) (nI (i + 1))
    unfold lostB
    dsimp only
    by_cases q : m.1 7 i = 0
    · rw [if_pos (z.mpr q), if_pos (decide_eq_true q), bn_e, or_n i (by omega) _ (mkN_lt _ _)]
    · rw [if_neg (fun w => q (z.mp w)), if_neg (fun w => q (of_decide_eq_true w)), bn_e, or_0 _ (mkN8 _ (by omega))]
def atB (m : MS) (c p : Nat) : Bool := decide (m.1 8 p = c)
theorem c_peopleAt (h : CM s b mu m) (hb : BM m) {c : Nat} (hc : c < 32) : f_X1_peopleAt b (nI c) s = some (nI (mkN (atB m c) (m.1 0 0))) := by
  have h8 := hb.1
  refine loopA (S := Unit) (fun n x i => L_X1_peopleAt_4 b (nI c) s (fun e3 => some e3) n x i) (fun e3 => some e3) (m.1 0 0) (by omega) (fun i => nI (mkN (atB m c) i)) (fun n => ?_) (fun n i hi => ?_)
  · show B_X1_peopleAt_4 _ b (nI c) s _ _ _ = _
    unfold B_X1_peopleAt_4
    rw [h.2.2.1]
    exact if_pos (nI_le (Nat.le_refl _) (by omega))
  · show B_X1_peopleAt_4 (L_X1_peopleAt_4 b (nI c) s (fun e3 => some e3) n) b (nI c) s _ _ _ = L_X1_peopleAt_4 b (nI c) s (fun e3 => some e3) n _ _
    have b8 := (hb.2.2.2.2.2 i hi).2.2.2
    have z : (nI (m.1 8 i) = nI c) ↔ m.1 8 i = c := nI_eq (by omega) (by omega)
    unfold B_X1_peopleAt_4
    rw [h.2.2.1, if_neg (nI_ge hi (by omega)), gd_n (show i < 8 by omega) (by omega), ix_n (by omega), (h.2.2.2.2.2.2 i hi).2.2.2, bn_e, nI_1]
    show _ = L_X1_peopleAt_4 b (nI c) s (fun e3 => some e3) n (nI (if atB m c i = true then mkN (atB m c) i + 2 ^ i else mkN (atB m c) i)) (nI (i + 1))
    unfold atB
    dsimp only
    by_cases q : m.1 8 i = c
    · rw [if_pos (z.mpr q), if_pos (decide_eq_true q), bn_e, or_n i (by omega) _ (mkN_lt _ _)]
    · rw [if_neg (fun w => q (z.mp w)), if_neg (fun w => q (of_decide_eq_true w))]
def wellAt (mu : Nat) (m : MS) (c p : Nat) : Nat := if m.1 8 p = c then wellS mu m p else 0
theorem c_wellingAt (h : CM s b mu m) (hb : BM m) (hmu : mu < 256) {c : Nat} (hc : c < 32) : f_X1_wellingAt b (nI c) s = some (nI (sumTo (wellAt mu m c) (m.1 0 0))) := by
  have h8 := hb.1
  refine loopA (S := Unit) (fun n x i => L_X1_wellingAt_4 b (nI c) s (fun e3 => some e3) n x i) (fun e3 => some e3) (m.1 0 0) (by omega) (fun i => nI (sumTo (wellAt mu m c) i)) (fun n => ?_) (fun n i hi => ?_)
  · show B_X1_wellingAt_4 _ b (nI c) s _ _ _ = _
    unfold B_X1_wellingAt_4
    rw [h.2.2.1]
    exact if_pos (nI_le (Nat.le_refl _) (by omega))
  · show B_X1_wellingAt_4 (L_X1_wellingAt_4 b (nI c) s (fun e3 => some e3) n) b (nI c) s _ _ _ = L_X1_wellingAt_4 b (nI c) s (fun e3 => some e3) n _ _
    have b8 := (hb.2.2.2.2.2 i hi).2.2.2
    have z : (nI (m.1 8 i) = nI c) ↔ m.1 8 i = c := nI_eq (by omega) (by omega)
    unfold B_X1_wellingAt_4
    rw [h.2.2.1, if_neg (nI_ge hi (by omega)), gd_n (show i < 8 by omega) (by omega), ix_n (by omega), (h.2.2.2.2.2.2 i hi).2.2.2, bn_e, nI_1, c_welling h hb hmu hi]
    show _ = L_X1_wellingAt_4 b (nI c) s (fun e3 => some e3) n (nI (sumTo (wellAt mu m c) i + wellAt mu m c i)) (nI (i + 1))
    unfold wellAt
    dsimp only
    by_cases q : m.1 8 i = c
    · rw [if_pos (z.mpr q), if_pos q, cp_s, bn_e, nI_add]
    · rw [if_neg (fun w => q (z.mp w)), if_neg q]; rfl
end SETS
