/-! sets of cells; copies; years -/
theorem or64 {i k : Nat} (hi : i < 32) (hk : k < 2 ^ i) : (lN k ||| ((1 : Int64) <<< ((nI i).toInt64 &&& 63))) = lN (k + 2 ^ i) := by
  have h1 : 2 ^ i ≤ 2 ^ 31 := Nat.pow_le_pow_right (by omega) (by omega)
  rw [show (1 : Int64) = lN 1 from rfl, wb_shl 1 (by omega), Nat.one_mul, wb_or (by omega) (by omega), show k + 2 ^ i = 2 ^ i * 1 + k by omega, Nat.two_pow_add_eq_or_of_lt hk, Nat.mul_one, Nat.or_comm]
theorem or64_0 {k : Nat} (hk : k < 2 ^ 64) : (lN k ||| (0 : Int64)) = lN k := by
  rw [show (0 : Int64) = lN 0 from rfl, wb_or hk (by omega), Nat.or_zero]
def suchB (m : MS) (k c : Nat) : Bool := if k = 0 then decide (10 ≤ m.1 3 c) else if k = 1 then !decide (mkN (atB m c) (m.1 0 0) = 0) else decide (lowS (m.1 2) c = c)
def trN (m : MS) : Nat → Nat
  | 0 => 0
  | n + 1 => trN m n ||| 2 ^ (m.1 8 n)
theorem trN_bit (m : MS) (c : Nat) : ∀ n, (trN m n).testBit c = !decide (mkN (atB m c) n = 0)
  | 0 => by simp [trN, mkN]
  | n + 1 => by
    unfold trN
    rw [Nat.testBit_or, trN_bit m c n, Nat.testBit_two_pow]
    show _ = !decide ((if atB m c n = true then mkN (atB m c) n + 2 ^ n else mkN (atB m c) n) = 0)
    have := Nat.two_pow_pos n
    by_cases q : m.1 8 n = c
    · rw [show atB m c n = true from decide_eq_true q, if_pos (rfl : true = true), decide_eq_true q]
      have z : ¬ (mkN (atB m c) n + 2 ^ n = 0) := by omega
      rw [decide_eq_false z]; simp
    · rw [show atB m c n = false from decide_eq_false q, if_neg Bool.false_ne_true, decide_eq_false q]; simp
theorem trN_lt (m : MS) : ∀ n, (∀ p, p < n → m.1 8 p ≤ 31) → trN m n < 2 ^ 32
  | 0, _ => by show 0 < 2 ^ 32; decide
  | n + 1, h => by
    have h1 := trN_lt m n (fun p hp => h p (by omega))
    have h2 : 2 ^ (m.1 8 n) < 2 ^ 32 := Nat.pow_lt_pow_right (by omega) (by have := h n (by omega); omega)
    exact Nat.or_lt_two_pow h1 h2
section WETS
variable {s : St} {a b d mu : Nat} {m : MS}
theorem c_wetCells (h : CM s b mu m) (hb : BM m) : f_X1_wetCells b s = some (lN (mkN (suchB m 0) 32)) := by
  refine loopA' (fun n x i => L_X1_wetCells_4 b s (fun e3 => some e3) n x i) (fun e3 => some e3) 32 (by omega) (fun i => lN (mkN (suchB m 0) i)) (fun n => ?_) (fun n i hi => ?_)
  · show B_X1_wetCells_4 _ b s _ _ _ = _
    unfold B_X1_wetCells_4
    exact if_pos (nI_le (Nat.le_refl 32) (by omega))
  · show B_X1_wetCells_4 (L_X1_wetCells_4 b s (fun e3 => some e3) n) b s _ _ _ = L_X1_wetCells_4 b s (fun e3 => some e3) n (lN (if suchB m 0 i = true then mkN (suchB m 0) i + 2 ^ i else mkN (suchB m 0) i)) _
    unfold B_X1_wetCells_4
    rw [if_neg (by rw [li_32]; exact nI_ge hi (by omega)), c_isWet h hb hi, cp_s, bn_e, nI_1, show decide (10 ≤ m.1 3 i) = suchB m 0 i from rfl]
    dsimp only
    cases q : suchB m 0 i
    · rw [if_pos bf_eq, if_neg Bool.false_ne_true]
    · rw [if_neg bt_ne, if_pos (rfl : true = true), bn_e, or64 hi (mkN_lt _ _)]
theorem c_hollows (h : CM s b mu m) : f_X1_hollows b s = some (lN (mkN (suchB m 2) 32)) := by
  refine loopA' (fun n x i => L_X1_hollows_4 b s (fun e3 => some e3) n x i) (fun e3 => some e3) 32 (by omega) (fun i => lN (mkN (suchB m 2) i)) (fun n => ?_) (fun n i hi => ?_)
  · show B_X1_hollows_4 _ b s _ _ _ = _
    unfold B_X1_hollows_4
    exact if_pos (nI_le (Nat.le_refl 32) (by omega))
  · show B_X1_hollows_4 (L_X1_hollows_4 b s (fun e3 => some e3) n) b s _ _ _ = L_X1_hollows_4 b s (fun e3 => some e3) n (lN (if suchB m 2 i = true then mkN (suchB m 2) i + 2 ^ i else mkN (suchB m 2) i)) _
    have hl := lowS_lt (h := m.1 2) hi
    unfold B_X1_hollows_4
    rw [if_neg (by rw [li_32]; exact nI_ge hi (by omega)), gd_n hi (by omega), ix_n (by omega), (h.2.2.2.2.2.1 i hi).2.2, bn_e, nI_1]
    dsimp only
    unfold lowI
    by_cases q : lowS (m.1 2) i = i
    · rw [if_pos q, if_neg (by decide), show suchB m 2 i = true from decide_eq_true q, if_pos (rfl : true = true), bn_e, or64 hi (mkN_lt _ _)]
    · rw [if_neg q, if_pos (nI_pos' (by omega)), show suchB m 2 i = false from decide_eq_false q, if_neg Bool.false_ne_true]
theorem c_trodCells (h : CM s b mu m) (hb : BM m) : f_X1_trodCells b s = some (lN (mkN (suchB m 1) 32)) := by
  have h8 := hb.1
  have e := loopA' (fun n x i => L_X1_trodCells_4 b s (fun e3 => some e3) n x i) (fun e3 => some e3) (m.1 0 0) (by omega) (fun i => lN (trN m i)) (fun n => by
    show B_X1_trodCells_4 _ b s _ _ _ = _
    unfold B_X1_trodCells_4
    rw [h.2.2.1]
    exact if_pos (nI_le (Nat.le_refl _) (by omega))) (fun n i hi => by
    show B_X1_trodCells_4 (L_X1_trodCells_4 b s (fun e3 => some e3) n) b s _ _ _ = L_X1_trodCells_4 b s (fun e3 => some e3) n (lN (trN m i ||| 2 ^ (m.1 8 i))) _
    have b8 := (hb.2.2.2.2.2 i hi).2.2.2
    have h1 := trN_lt m i (fun p hp => (hb.2.2.2.2.2 p (by omega)).2.2.2)
    have h2 : 2 ^ (m.1 8 i) < 2 ^ 32 := Nat.pow_lt_pow_right (by omega) (by omega)
    unfold B_X1_trodCells_4
    rw [h.2.2.1, if_neg (nI_ge hi (by omega)), gd_n (show i < 8 by omega) (by omega), ix_n (by omega), (h.2.2.2.2.2.2 i hi).2.2.2, bn_e, nI_1, show (1 : Int64) = lN 1 from rfl, wb_shl 1 (by omega), Nat.one_mul, wb_or (by omega) (by omega)])
  refine e.trans ?_
  have hl := trN_lt m (m.1 0 0) (fun p hp => (hb.2.2.2.2.2 p hp).2.2.2)
  have : trN m (m.1 0 0) = mkN (suchB m 1) 32 := by
    apply Nat.eq_of_testBit_eq
    intro c
    rw [mkN_bit]
    by_cases q : c < 32
    · rw [decide_eq_true q, Bool.true_and, trN_bit]; rfl
    · rw [decide_eq_false q, Bool.false_and]
      exact Nat.testBit_lt_two_pow (Nat.lt_of_lt_of_le hl (Nat.pow_le_pow_right (by omega) (by omega)))
  rw [this]
theorem r_isSuch (h : MM s b mu m) (hb : BM m) (hmu : mu < 256) {k c : Nat} (hk : k < 3) (hc : c < 32) : f_X4_isSuch b (nI c) (nI k) s = some (bI (suchB m k c)) := by
  have h8 := hb.1
  unfold f_X4_isSuch
  rcases (by omega : k = 0 ∨ k = 1 ∨ k = 2) with rfl | rfl | rfl
  · rw [if_pos (by decide), r_isWet h hb hc, cp_s, zb_bI, gd_t]; rfl
  · rw [if_neg (by decide), if_pos (by decide), li_0, r_atCell h hb hmu hc (by omega), cp_s]
    have e : sumTo (fun p => if atB m c p = true then atVal mu m 0 p else 0) (m.1 0 0) = mkN (atB m c) (m.1 0 0) := by rw [mkN_sum]; rfl
    have hlt := mkN8 (atB m c) h8
    have z : (nI (mkN (atB m c) (m.1 0 0)) = nI 0) ↔ mkN (atB m c) (m.1 0 0) = 0 := nI_eq (by omega) (by omega)
    rw [e]
    by_cases q : mkN (atB m c) (m.1 0 0) = 0
    · rw [if_pos (z.mpr q)]; unfold suchB; simp [q, bI, nI_0]
    · rw [if_neg (fun w => q (z.mp w))]; unfold suchB; simp [q, bI]
  · rw [if_neg (by decide), if_neg (by decide), r_lowestOf h hb hc, cp_s]
    have hl := lowS_lt (h := m.1 2) hc
    unfold lowI
    by_cases q : lowS (m.1 2) c = c
    · rw [if_pos q, if_pos rfl]; unfold suchB; simp [q, bI]
    · rw [if_neg q, if_neg (fun z => by
        have := congrArg Int32.toInt z
        rw [nI_toInt (by omega), show ((-3 : Int32)).toInt = -3 from rfl] at this
        omega)]; unfold suchB; simp [q, bI]
theorem r_wets (h : MM s b mu m) (hb : BM m) (hmu : mu < 256) {k : Nat} (hk : k < 3) : f_X4_wets b (nI k) s = some (lN (mkN (suchB m k) 32)) := by
  unfold f_X4_wets
  rw [r_inN (nI k) 2 (n := 2) (by decide), cp_s, wp_n (n := 2 + 1) (by omega) (by omega), if_neg bt_ne]
  refine loopA' (fun n x i => L_X4_wets_21 b (nI k) s (fun e3 => some e3) n x i) (fun e3 => some e3) 32 (by omega) (fun i => lN (mkN (suchB m k) i)) (fun n => ?_) (fun n i hi => ?_)
  · show B_X4_wets_21 _ b (nI k) s _ _ _ = _
    unfold B_X4_wets_21
    exact if_pos (nI_le (Nat.le_refl 32) (by omega))
  · show B_X4_wets_21 (L_X4_wets_21 b (nI k) s (fun e3 => some e3) n) b (nI k) s _ _ _ = L_X4_wets_21 b (nI k) s (fun e3 => some e3) n (lN (if suchB m k i = true then mkN (suchB m k) i + 2 ^ i else mkN (suchB m k) i)) _
    have hl := mkN_lt (suchB m k) i
    have hp : 2 ^ i < 2 ^ 32 := Nat.pow_lt_pow_right (by omega) (by omega)
    unfold B_X4_wets_21
    rw [if_neg (by rw [li_32]; exact nI_ge hi (by omega)), r_isSuch h hb hmu hk hi, cp_s, bn_e, nI_1]
    dsimp only
    cases q : suchB m k i
    · rw [if_pos bf_eq, if_neg Bool.false_ne_true, bn_e, or64_0 (by omega)]
    · rw [if_neg bt_ne, if_pos (rfl : true = true), bn_e, or64 hi hl]
theorem r_cellsSuch (h : MM s b mu m) (hb : BM m) (hmu : mu < 256) {k : Nat} (hk : k < 3) : f_X4_cellsSuch b (nI k) s = some (nI (cnN (suchB m k) 32)) := by
  refine loopA' (fun n x i => L_X4_cellsSuch_4 b (nI k) s (fun e3 => some e3) n x i) (fun e3 => some e3) 32 (by omega) (fun i => nI (cnN (suchB m k) i)) (fun n => ?_) (fun n i hi => ?_)
  · show B_X4_cellsSuch_4 _ b (nI k) s _ _ _ = _
    unfold B_X4_cellsSuch_4
    exact if_pos (nI_le (Nat.le_refl 32) (by omega))
  · show B_X4_cellsSuch_4 (L_X4_cellsSuch_4 b (nI k) s (fun e3 => some e3) n) b (nI k) s _ _ _ = L_X4_cellsSuch_4 b (nI k) s (fun e3 => some e3) n (nI (if suchB m k i = true then cnN (suchB m k) i + 1 else cnN (suchB m k) i)) _
    unfold B_X4_cellsSuch_4
    rw [if_neg (by rw [li_32]; exact nI_ge hi (by omega)), r_isSuch h hb hmu hk hi, cp_s, bn_e, nI_1]
    dsimp only
    cases q : suchB m k i
    · rw [if_pos bf_eq, if_neg Bool.false_ne_true, bn_e, show (0 : Int32) = nI 0 from rfl, nI_add, Nat.add_zero]
    · rw [if_neg bt_ne, if_pos (rfl : true = true), bn_e, nI_1]
theorem p_wets (hC : CM s (b + 1) 0 m) (hM : MM s d 0 m) (hB : BM m) (a1 : Int32) : PP s (f_X3_wets b a1) (f_X4_wets d a1) := by
  unfold PP
  cases h : wp a1 (2 + 1)
  · have g : ∀ j, j < 3 → ¬ a1 = nI j := fun j hj => wp_lit h (by omega) (by omega)
    refine ⟨-1, ?_, ?_⟩
    · unfold f_X3_wets
      rw [if_neg (show ¬ a1 = (0 : Int32) from g 0 (by omega)), if_neg (show ¬ a1 = (1 : Int32) from g 1 (by omega)), if_neg (show ¬ a1 = (2 : Int32) from g 2 (by omega))]
    · unfold f_X4_wets
      rw [r_inN a1 2 (n := 2) (by decide), cp_s, h]; rfl
  · obtain ⟨k, hk, rfl⟩ := wp_of h (by omega)
    refine ⟨_, ?_, r_wets hM hB (by omega) hk⟩
    unfold f_X3_wets
    rcases (by omega : k = 0 ∨ k = 1 ∨ k = 2) with rfl | rfl | rfl
    · rw [if_pos (by decide), c_wetCells hC hB]; rfl
    · rw [if_neg (by decide), if_pos (by decide), c_trodCells hC hB]; rfl
    · rw [if_neg (by decide), if_neg (by decide), if_pos (by decide), c_hollows hC]; rfl
theorem r_inLo (a : Int32) (lo hi : Int64) : f_X4_in (a).toInt64 lo hi = some (bI (decide (lo.toInt ≤ a.toInt ∧ a.toInt ≤ hi.toInt))) := by
  rw [r_in]
  have e : (lo ≤ a.toInt64 ∧ a.toInt64 ≤ hi) ↔ (lo.toInt ≤ a.toInt ∧ a.toInt ≤ hi.toInt) := by
    rw [Int64.le_iff_toInt_le, Int64.le_iff_toInt_le, Int32.toInt_toInt64]
  exact congrArg (fun b => some (bI b)) (decide_eq_decide.mpr e)
theorem nI_back {a : Int32} {n : Nat} (h : a.toInt = n) (hn : n < 2 ^ 31) : a = nI n := by
  apply Int32.toInt_inj.mp
  rw [nI_toInt hn]; exact h
theorem c_wetCount (h : CM s b mu m) (hb : BM m) : (cp (f_X1_wetCells b s) fun x2 => f_J13_bitCount_95d88 x2) = some (nI (cnN (suchB m 0) 32)) := by
  rw [c_wetCells h hb, cp_s, bitc64 (mkN_lt _ _), pop32 _ (Nat.le_refl _)]
theorem p_years (hd : d = b + 53) (hC : CM s (b + 1) 0 m) (hM : MM s d 0 m) (hB : BM m) (a1 : Int32) : PO b d s (f_X3_years b a1) (f_X4_years d a1) := by
  have r1 : ∀ t, f_X4_years d a1 t = (if bI (decide ((1 : Int) ≤ a1.toInt ∧ a1.toInt ≤ 60)) = 0 then some ((-1 : Int32), t) else cw (f_X4_yearsGo d a1 t) fun s2 => cp (f_X4_cellsSuch d (0 : Int32) s2) fun x3 => some (x3, s2)) := fun t => by
    unfold f_X4_years
    rw [r_inLo, cp_s]
    rfl
  have c1 := f_X3_years.eq_1 b a1 s
  have e0 : (a1 < (1 : Int32)) ↔ a1.toInt < 1 := by rw [Int32.lt_iff_toInt_lt]; rfl
  have e1 : (a1 ≤ (60 : Int32)) ↔ a1.toInt ≤ 60 := by rw [Int32.le_iff_toInt_le]; rfl
  by_cases h1 : a1.toInt < 1
  · rw [if_pos (e0.mpr h1)] at c1
    exact PO.no hC hM hB c1 (by rw [r1, decide_eq_false (by omega)]; rfl)
  · rw [if_neg (fun w => h1 (e0.mp w))] at c1
    by_cases h2 : a1.toInt ≤ 60
    · rw [if_pos (e1.mpr h2)] at c1
      obtain ⟨n, hn⟩ : ∃ n : Nat, a1.toInt = n := ⟨a1.toInt.toNat, by omega⟩
      have ha := nI_back hn (by omega)
      subst ha
      rw [nI_toInt (by omega)] at h1 h2
      obtain ⟨s1, f1, g1, k1⟩ := c_passYears hC hB (by omega) (show n ≤ 60 by omega)
      have hb' := hB.years 0 n
      rw [f1, cw_s, c_wetCells k1 hb', cp_s, bitc64 (mkN_lt _ _), pop32 _ (Nat.le_refl _), cp_s] at c1
      refine PO.mk hd hM hb' c1 (g1.wk (fun k q => by unfold wM at q; unfold wC; omega)) k1 (fun hM1 => ?_)
      obtain ⟨s2, f2, g2, k2⟩ := r_yearsGo hM1 hB (by omega) (show n ≤ 60 by omega)
      rw [r1, nI_toInt (by omega), decide_eq_true (by omega), if_neg bt_ne, f2, cw_s, li_0, r_cellsSuch k2 hb' (by omega) (by omega), cp_s]
      exact ⟨s2, rfl, g2.wk (fun k q => by unfold wR at q; unfold wQ; omega), k2⟩
    · rw [if_neg (fun w => h2 (e1.mp w))] at c1
      exact PO.no hC hM hB c1 (by rw [r1, decide_eq_false (by omega)]; rfl)
theorem gA_ne {k k' : Nat} {g : Nat → Int32} (h : k' ≠ k) : gA (pC s k g) k' = gA s k' := by rw [gA_pC, if_neg h]
theorem gA_eq {k : Nat} {g : Nat → Int32} : gA (pC s k g) k = g := by rw [gA_pC, if_pos rfl]
theorem cp_lt {n j : Nat} {f g : Nat → Int32} (h : j < n) : cpN n f g j = f j := if_pos h
theorem c_become (h : CM s a mu m) (h8 : m.1 0 0 ≤ 8) (hd : a + 8 < b) : ∃ s', f_X1_become b a s = some s' ∧ Fr (wM b) s s' ∧ CM s' b mu m := by
  obtain ⟨h1, h2, h3, h4, h5, h6, h7⟩ := h
  unfold f_X1_become
  simp only [bn_e]
  refine ⟨_, rfl, ?_, ?_⟩
  · repeat' first
      | exact Fr.pC (by unfold wM; omega)
      | refine Fr.tr ?_ (Fr.pF (by unfold wM; omega))
      | refine Fr.tr ?_ (Fr.pC (by unfold wM; omega))
  · have e0 : ∀ k, ¬ a = b + k := fun k => by omega
    have e00 : ¬ a = b := by omega
    have y1 : ¬ a + 1 = b := by omega
    have y2 : ¬ a + 2 = b := by omega
    have y3 : ¬ a + 3 = b := by omega
    have y4 : ¬ a + 4 = b := by omega
    have y5 : ¬ a + 5 = b := by omega
    have y6 : ¬ a + 6 = b := by omega
    have y7 : ¬ a + 7 = b := by omega
    have y8 : ¬ a + 8 = b := by omega
    refine ⟨?_, ?_, ?_, ?_, fun x hx => ?_, fun x hx => ⟨?_, ?_, ?_⟩, fun x hx => ?_⟩
    · simp [gF_pF, gF_pC, e00]; exact h1
    · simp [gF_pF, gF_pC, e00]; exact h2
    · simp [gF_pF, gF_pC, e00]; exact h3
    · simp [gF_pF, gF_pC, e00]; exact h4
    · simp [gA_pF, gA_pC, cpN, hx, e0, e00, y1, y2, y3, y4, y5, y6, y7, y8]; exact h5 x hx
    · simp [gA_pF, gA_pC, cpN, hx, e0, e00, y1, y2, y3, y4, y5, y6, y7, y8]; exact (h6 x hx).1
    · simp [gA_pF, gA_pC, cpN, hx, e0, e00, y1, y2, y3, y4, y5, y6, y7, y8]; exact (h6 x hx).2.1
    · simp [gA_pF, gA_pC, cpN, hx, e0, e00, y1, y2, y3, y4, y5, y6, y7, y8]; exact (h6 x hx).2.2
    · have hx8 : x < 8 := by omega
      obtain ⟨z1, z2, z3, z4⟩ := h7 x hx
      refine ⟨?_, ?_, ?_, ?_⟩
      · simp [gA_pF, gA_pC, cpN, hx8, e0, e00, y1, y2, y3, y4, y5, y6, y7, y8]; exact z1
      · simp [gA_pF, gA_pC, cpN, hx8, e0, e00, y1, y2, y3, y4, y5, y6, y7, y8]; exact z2
      · simp [gA_pF, gA_pC, cpN, hx8, e0, e00, y1, y2, y3, y4, y5, y6, y7, y8]; exact z3
      · simp [gA_pF, gA_pC, cpN, hx8, e0, e00, y1, y2, y3, y4, y5, y6, y7, y8]; exact z4
end WETS
