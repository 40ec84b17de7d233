/-! what is at a cell; what one is; the state -/
theorem sum_twice (T : Nat → Nat → Nat) (hs : ∀ p q, T p q = T q p) (h0 : ∀ p, T p p = 0) : ∀ n : Nat, sumTo (fun p => sumTo (T p) n) n = 2 * sumTo (fun p => sumTo (T p) p) n
  | 0 => rfl
  | n + 1 => by
    have e1 : sumTo (fun p => sumTo (T p) (n + 1)) n = sumTo (fun p => sumTo (T p) n) n + sumTo (T n) n := by
      have : sumTo (fun p => sumTo (T p) (n + 1)) n = sumTo (fun p => sumTo (T p) n + T n p) n := sumTo_congr (fun p _ => by simp only [sumTo]; rw [hs p n])
      rw [this, sumTo_add]
    simp only [sumTo] at e1 ⊢
    rw [e1, sum_twice T hs h0 n, h0 n]
    omega
theorem sumTo_z (n : Nat) : sumTo (fun _ => 0) n = 0 := by
  induction n with
  | zero => rfl
  | succ n ih => simp only [sumTo]; rw [ih]
theorem sumTo_if {c : Prop} [Decidable c] (f : Nat → Nat) (n : Nat) : sumTo (fun i => if c then f i else 0) n = if c then sumTo f n else 0 := by
  by_cases h : c
  · simp [h]
  · simp [h, sumTo_z]
theorem mkN_sum (P : Nat → Bool) : ∀ n, mkN P n = sumTo (fun p => if P p = true then 2 ^ p else 0) n
  | 0 => rfl
  | n + 1 => by
    simp only [sumTo]
    rw [← mkN_sum P n]
    show (if P n = true then mkN P n + 2 ^ n else mkN P n) = _
    split <;> rfl
theorem disN_sym (mu : Nat) (m : MS) (p q : Nat) : disN mu m p q = disN mu m q p := by unfold disN; rw [disS_sym]
theorem disN_self (mu : Nat) (m : MS) (p : Nat) : disN mu m p p = 0 := by unfold disN; rw [disS_self]; rfl
/-- what one adds at a cell: as a set, as welling, as disputes with those before -/
def atVal (mu : Nat) (m : MS) (k p : Nat) : Nat := if k = 0 then 2 ^ p else if k = 1 then wellS mu m p else sumTo (disN mu m p) p
def disAt (mu : Nat) (m : MS) (w : Nat → Bool) : Nat := sumTo (fun p => if w p = true then sumTo (disN mu m p) p else 0) (m.1 0 0)
theorem dis_twice (mu : Nat) (m : MS) (w : Nat → Bool) (hw : ∀ p q, disS mu m p q = true → w p = w q) : sumTo (fun p => if w p = true then cnN (disS mu m p) (m.1 0 0) else 0) (m.1 0 0) = 2 * disAt mu m w := by
  have h := sum_twice (fun p q => if w p = true then disN mu m p q else 0) (fun p q => by
    unfold disN
    rw [disS_sym mu m q p]
    by_cases z : disS mu m p q = true
    · rw [hw p q z]
    · simp [z]) (fun p => by simp [disN_self]) (m.1 0 0)
  have e1 : ∀ p, sumTo (fun q => if w p = true then disN mu m p q else 0) (m.1 0 0) = if w p = true then cnN (disS mu m p) (m.1 0 0) else 0 := fun p => by
    rw [sumTo_if, cnN_sum]; rfl
  have e2 : ∀ p, sumTo (fun q => if w p = true then disN mu m p q else 0) p = if w p = true then sumTo (disN mu m p) p else 0 := fun p => sumTo_if _ _
  rw [sumTo_congr (fun p _ => e1 p), sumTo_congr (fun p _ => e2 p)] at h
  exact h
section CELLS
variable {s : St} {b mu : Nat} {m : MS}
theorem disAt_le (mu : Nat) (m : MS) (h8 : m.1 0 0 ≤ 8) (w : Nat → Bool) : disAt mu m w ≤ 64 := by
  have : disAt mu m w ≤ m.1 0 0 * 8 := sumTo_le (fun p hp => by
    have : sumTo (disN mu m p) p ≤ p * 1 := sumTo_le (fun o _ => disN_le mu m p o)
    split <;> omega)
  omega
theorem c_oppCount (h : CM s b mu m) (hb : BM m) (hmu : mu < 256) {p : Nat} (hp : p < m.1 0 0) {α : Type} (f : Int32 → Option α) : (cp (f_X1_opponents b (nI p) s) fun x4 => cp (f_J6_bitCount_0f7a4 x4) f) = f (nI (cnN (disS mu m p) (m.1 0 0))) := by
  rw [c_opponents h hb hmu hp, cp_s, bitc_n _ (mkN8 _ hb.1), cp_s, pop_mk _ hb.1]
theorem c_disputes (h : CM s b mu m) (hb : BM m) (hmu : mu < 256) : f_X1_disputes b s = some (nI (disAt mu m (fun _ => true))) := by
  have h8 := hb.1
  have e := loopA (S := Unit) (fun n x i => L_X1_disputes_4 b s (fun e3 => some (e3 / (2 : Int32))) n x i) (fun e3 => some (e3 / (2 : Int32))) (m.1 0 0) (by omega) (fun i => nI (sumTo (fun p => if (fun _ => true) p = true then cnN (disS mu m p) (m.1 0 0) else 0) i)) (fun n => by
    show B_X1_disputes_4 _ b s _ _ _ = _
    unfold B_X1_disputes_4
    rw [h.2.2.1]
    exact if_pos (nI_le (Nat.le_refl _) (by omega))) (fun n i hi => by
    show B_X1_disputes_4 (L_X1_disputes_4 b s (fun e3 => some (e3 / (2 : Int32))) n) b s _ _ _ = L_X1_disputes_4 b s (fun e3 => some (e3 / (2 : Int32))) n _ _
    unfold B_X1_disputes_4
    rw [h.2.2.1, if_neg (nI_ge hi (by omega)), c_oppCount h hb hmu hi, bn_e, nI_1, nI_add]
    rfl)
  have := disAt_le mu m h8 (fun _ => true)
  refine e.trans ?_
  rw [dis_twice mu m (fun _ => true) (fun _ _ _ => rfl), n_half (by omega), Nat.mul_div_cancel_left _ (by omega)]
theorem c_disputesAt (h : CM s b mu m) (hb : BM m) (hmu : mu < 256) {c : Nat} (hc : c < 32) : f_X1_disputesAt b (nI c) s = some (nI (disAt mu m (atB m c))) := by
  have h8 := hb.1
  have e := loopA (S := Unit) (fun n x i => L_X1_disputesAt_4 b (nI c) s (fun e3 => some (e3 / (2 : Int32))) n x i) (fun e3 => some (e3 / (2 : Int32))) (m.1 0 0) (by omega) (fun i => nI (sumTo (fun p => if atB m c p = true then cnN (disS mu m p) (m.1 0 0) else 0) i)) (fun n => by
    show B_X1_disputesAt_4 _ b (nI c) s _ _ _ = _
    unfold B_X1_disputesAt_4
    rw [h.2.2.1]
    exact if_pos (nI_le (Nat.le_refl _) (by omega))) (fun n i hi => by
    show B_X1_disputesAt_4 (L_X1_disputesAt_4 b (nI c) s (fun e3 => some (e3 / (2 : Int32))) n) b (nI c) s _ _ _ = L_X1_disputesAt_4 b (nI c) s (fun e3 => some (e3 / (2 : Int32))) n (nI (sumTo (fun p => if atB m c p = true then cnN (disS mu m p) (m.1 0 0) else 0) i + if atB m c i = true then cnN (disS mu m i) (m.1 0 0) else 0)) _
    have b8 := (hb.2.2.2.2.2 i hi).2.2.2
    have z : (nI (m.1 8 i) = nI c) ↔ m.1 8 i = c := nI_eq (by omega) (by omega)
    unfold B_X1_disputesAt_4
    rw [h.2.2.1, if_neg (nI_ge hi (by omega)), gd_n (show i < 8 by omega) (by omega), ix_n (by omega), (h.2.2.2.2.2.2 i hi).2.2.2, bn_e, nI_1]
    dsimp only
    by_cases q : m.1 8 i = c
    · rw [if_pos (z.mpr q), c_oppCount h hb hmu hi, bn_e, nI_add, show atB m c i = true from decide_eq_true q, if_pos (rfl : true = true)]
    · rw [if_neg (fun w => q (z.mp w)), show atB m c i = false from decide_eq_false q, if_neg Bool.false_ne_true]; rfl)
  have := disAt_le mu m h8 (atB m c)
  refine e.trans ?_
  rw [dis_twice mu m (atB m c) (fun p q z => by
    have : m.1 8 p = m.1 8 q := (of_decide_eq_true z).1
    unfold atB; rw [this]), n_half (by omega), Nat.mul_div_cancel_left _ (by omega)]
theorem r_atIn (h : MM s b mu m) (hb : BM m) (hmu : mu < 256) {p : Nat} (hp : p < m.1 0 0) (a1 : Int32) {k : Nat} (hk : k ≤ 2) (K : Int32 → Option Int32) (A : Nat) :
    L_X4_atCell_63 b a1 (nI k) s (nI p) K FU (nI A) (0 : Int32) = K (nI (A + if k = 2 then sumTo (disN mu m p) p else 0)) := by
  have h8 := hb.1
  by_cases q : k = 2
  · subst q
    have e := loopA (S := Unit) (fun n x i => L_X4_atCell_63 b a1 (nI 2) s (nI p) K n x i) K p (by omega) (fun i => nI (A + sumTo (disN mu m p) i)) (fun n => by
      show B_X4_atCell_63 _ b a1 (nI 2) s (nI p) K _ _ = _
      unfold B_X4_atCell_63
      exact if_pos (nI_le (Nat.le_refl _) (by omega))) (fun n i hi => by
      show B_X4_atCell_63 (L_X4_atCell_63 b a1 (nI 2) s (nI p) K n) b a1 (nI 2) s (nI p) K _ _ = L_X4_atCell_63 b a1 (nI 2) s (nI p) K n _ _
      have ed := r_doDisagree h hb hmu (p := i) (q := p) (by omega) hp
      rw [decide_eq_true (show i ≠ p by omega), Bool.true_and, disS_sym] at ed
      unfold B_X4_atCell_63
      rw [if_neg (nI_ge hi (by omega)), if_pos (show nI 2 = (2 : Int32) from rfl), ed, cp_s, bn_if2, bn_e, nI_1]
      have ev : (if bI (disS mu m p i) = 0 then (0 : Int32) else 1) = nI (disN mu m p i) := by unfold disN; cases disS mu m p i <;> rfl
      rw [ev, nI_add, Nat.add_assoc]
      rfl)
    exact e
  · rw [if_neg q, Nat.add_zero]
    show B_X4_atCell_63 (L_X4_atCell_63 b a1 (nI k) s (nI p) K 999) b a1 (nI k) s (nI p) K (nI A) (0 : Int32) = _
    unfold B_X4_atCell_63
    rw [if_neg (fun w : nI k = (2 : Int32) => q ((nI_eq (b := 2) (by omega) (by omega)).mp w))]
    split <;> rfl
theorem r_atAdd (h : MM s b mu m) (hb : BM m) (hmu : mu < 256) {p : Nat} (hp : p < m.1 0 0) (a1 : Int32) {k : Nat} (hk : k ≤ 2) (K : Int32 → Option Int32) (A : Nat) :
    (bn (fun (t6 : Int32) => bn ((nI A + t6)) fun x9 => L_X4_atCell_63 b a1 (nI k) s (nI p) (fun (e12 : Int32) => K e12) FU x9 (0 : Int32)) fun K7 => (if nI k = 0 then K7 ((1 : Int32) <<< (nI p &&& 31)) else (if nI k = (1 : Int32) then cp (f_X4_wells b (nI p) s) fun x8 => K7 x8 else K7 (0 : Int32)))) = K (nI (A + atVal mu m k p)) := by
  have h8 := hb.1
  unfold atVal
  rw [bn_e]
  dsimp only
  rcases (by omega : k = 0 ∨ k = 1 ∨ k = 2) with rfl | rfl | rfl
  · rw [if_pos (by decide), shl_n p (by omega), nI_add, bn_e, r_atIn h hb hmu hp a1 (by omega)]; rfl
  · rw [if_neg (by decide), if_pos (by decide), r_wells h hb hmu hp, cp_s, nI_add, bn_e, r_atIn h hb hmu hp a1 (by omega)]; rfl
  · rw [if_neg (by decide), if_neg (by decide), show (0 : Int32) = nI 0 from rfl, nI_add, bn_e, ← li_0, r_atIn h hb hmu hp a1 (by omega)]; rfl
theorem r_atCell (h : MM s b mu m) (hb : BM m) (hmu : mu < 256) {c k : Nat} (hc : c < 32) (hk : k ≤ 2) : f_X4_atCell b (nI c) (nI k) s = some (nI (sumTo (fun p => if atB m c p = true then atVal mu m k p else 0) (m.1 0 0))) := by
  have h8 := hb.1
  refine loopA (S := Unit) (fun n x i => L_X4_atCell_5 b (nI c) (nI k) s (fun e3 => some e3) n x i) (fun e3 => some e3) (m.1 0 0) (by omega) (fun i => nI (sumTo (fun p => if atB m c p = true then atVal mu m k p else 0) i)) (fun n => ?_) (fun n i hi => ?_)
  · show B_X4_atCell_5 _ b (nI c) (nI k) s _ _ _ = _
    unfold B_X4_atCell_5
    rw [h.1.2.2.1]
    exact if_pos (nI_le (Nat.le_refl _) (by omega))
  · show B_X4_atCell_5 (L_X4_atCell_5 b (nI c) (nI k) s (fun e3 => some e3) n) b (nI c) (nI k) s _ _ _ = L_X4_atCell_5 b (nI c) (nI k) s (fun e3 => some e3) n (nI (sumTo (fun p => if atB m c p = true then atVal mu m k p else 0) i + if atB m c i = true then atVal mu m k i else 0)) _
    have b8 := (hb.2.2.2.2.2 i hi).2.2.2
    have z : (nI (m.1 8 i) = nI c) ↔ m.1 8 i = c := nI_eq (by omega) (by omega)
    unfold B_X4_atCell_5
    rw [h.1.2.2.1, if_neg (nI_ge hi (by omega)), bn_e, if_neg (nI_pos (by omega)), r_g3 h h8 hi, cp_s, nI_1]
    dsimp only
    by_cases q : m.1 8 i = c
    · rw [if_pos (z.mpr q), r_atAdd h hb hmu hi (nI c) hk (fun t4 => L_X4_atCell_5 b (nI c) (nI k) s (fun e3 => some e3) n t4 (nI (i + 1))), show atB m c i = true from decide_eq_true q, if_pos (rfl : true = true)]
    · rw [if_neg (fun w => q (z.mp w)), show atB m c i = false from decide_eq_false q, if_neg Bool.false_ne_true]; rfl
theorem r_atAll (h : MM s b mu m) (hb : BM m) (hmu : mu < 256) {k : Nat} (hk : k ≤ 2) : f_X4_atCell b (-1 : Int32) (nI k) s = some (nI (sumTo (atVal mu m k) (m.1 0 0))) := by
  have h8 := hb.1
  refine loopA (S := Unit) (fun n x i => L_X4_atCell_5 b (-1 : Int32) (nI k) s (fun e3 => some e3) n x i) (fun e3 => some e3) (m.1 0 0) (by omega) (fun i => nI (sumTo (atVal mu m k) i)) (fun n => ?_) (fun n i hi => ?_)
  · show B_X4_atCell_5 _ b (-1 : Int32) (nI k) s _ _ _ = _
    unfold B_X4_atCell_5
    rw [h.1.2.2.1]
    exact if_pos (nI_le (Nat.le_refl _) (by omega))
  · show B_X4_atCell_5 (L_X4_atCell_5 b (-1 : Int32) (nI k) s (fun e3 => some e3) n) b (-1 : Int32) (nI k) s _ _ _ = L_X4_atCell_5 b (-1 : Int32) (nI k) s (fun e3 => some e3) n (nI (sumTo (atVal mu m k) i + atVal mu m k i)) _
    unfold B_X4_atCell_5
    rw [h.1.2.2.1, if_neg (nI_ge hi (by omega)), bn_e, if_pos (by decide), nI_1]
    dsimp only
    rw [r_atAdd h hb hmu hi (-1) hk (fun t4 => L_X4_atCell_5 b (-1 : Int32) (nI k) s (fun e3 => some e3) n t4 (nI (i + 1)))]
end CELLS
