/-! parts of a whole -/
def fpN : Nat → Nat × Nat
  | 0 => (1, 2)
  | n + 1 => ((fpN n).2, (fpN n).1 + (fpN n).2)
theorem lN_z {y : Nat} (hy : y < 2 ^ 63) : (lg_cmp (lN y) (0 : Int64) = 0) ↔ y = 0 := by
  rw [lg_cmp_eq, show (0 : Int64) = lN 0 from rfl]
  exact pk_lEQ hy (by omega)
theorem lN_z' {y : Nat} (hy : y < 2 ^ 63) : (lN y = (0 : Int64)) ↔ y = 0 := by
  rw [show (0 : Int64) = lN 0 from rfl]
  exact pk_lEQ hy (by omega)
theorem gcd_st (x y : Nat) : Nat.gcd y (x % y) = Nat.gcd x y := by
  rw [Nat.gcd_comm x y, Nat.gcd_rec y x, Nat.gcd_comm]
theorem euclid {R : Type} (L : Nat → Int64 → Int64 → Int32 → R) (K : Int64 → R) (hz : ∀ n x i, L (n + 1) (lN x) (lN 0) i = K (lN x)) (hs : ∀ n x y i, 0 < y → x < 2 ^ 63 → y < 2 ^ 63 → i < 100 → L (n + 1) (lN x) (lN y) (nI i) = L n (lN y) (lN (x % y)) (nI (i + 1))) :
    ∀ k, (∀ x y i n, y < x → x < (fpN k).1 → i + k < 100 → k < n → x < 2 ^ 63 → L n (lN x) (lN y) (nI i) = K (lN (Nat.gcd x y))) ∧ (∀ x y i n, y < x → x < (fpN k).2 → i + k + 1 < 100 → k + 1 < n → x < 2 ^ 63 → L n (lN x) (lN y) (nI i) = K (lN (Nat.gcd x y)))
  | 0 => by
    refine ⟨fun x y i n h1 h2 _ _ _ => ?_, fun x y i n h1 h2 _ hn _ => ?_⟩
    · have h2 : x < 1 := h2
      omega
    · have h2 : x < 2 := h2
      obtain ⟨n, rfl⟩ : ∃ j, n = j + 1 := ⟨n - 1, by omega⟩
      have : y = 0 := by omega
      subst this
      rw [hz, Nat.gcd_zero_right]
  | k + 1 => by
    obtain ⟨ih1, ih2⟩ := euclid L K hz hs k
    refine ⟨fun x y i n h1 h2 h3 h4 h5 => ih2 x y i n h1 h2 (by omega) (by omega) h5, fun x y i n h1 h2 h3 h4 h5 => ?_⟩
    have h2 : x < (fpN k).1 + (fpN k).2 := h2
    obtain ⟨n, rfl⟩ : ∃ j, n = j + 1 := ⟨n - 1, by omega⟩
    by_cases y0 : y = 0
    · subst y0
      rw [hz, Nat.gcd_zero_right]
    have hr : x % y < y := Nat.mod_lt _ (by omega)
    rw [hs n x y i (by omega) h5 (by omega) (by omega)]
    by_cases hy : y < (fpN k).2
    · rw [ih2 y (x % y) (i + 1) n hr hy (by omega) (by omega) (by omega), gcd_st]
    · have hle : x % y ≤ x - y := by
        have e1 : x % y = (x - y) % y := Nat.mod_eq_sub_mod (by omega)
        rw [e1]
        exact Nat.mod_le _ _
      obtain ⟨n, rfl⟩ : ∃ j, n = j + 1 := ⟨n - 1, by omega⟩
      by_cases r0 : x % y = 0
      · rw [r0, hz, ← gcd_st, r0, Nat.gcd_zero_right]
      · rw [hs n y (x % y) (i + 1) (by omega) (by omega) (by omega) (by omega), ih1 (x % y) (y % (x % y)) (i + 1 + 1) n (Nat.mod_lt _ (by omega)) (by omega) (by omega) (by omega) (by omega), gcd_st, gcd_st]
theorem fp_big : 10 ^ 18 < (fpN 88).1 := by decide +kernel
def shareN (A W : Nat) (a4 : Int32) : Int64 := if a4 = 0 then lN A / lN (Nat.gcd W A) else lN W / lN (Nat.gcd W A)
theorem c_partOf {A W : Nat} (hA : A ≤ 10 ^ 18) (hW : W ≤ 10 ^ 18) (h0 : 0 < W) (a4 : Int32) : f_X3_partOf (lN A) (lN W) a4 = some (shareN A W a4) := by
  have hg0 : 0 < Nat.gcd W A := Nat.gcd_pos_of_pos_left _ h0
  have hg : Nat.gcd W A ≤ W := Nat.gcd_le_left _ h0
  have e := fp_big
  have key : ∀ K : Int64 → Option Int64, L_X3_partOf_9 (lN A) (lN W) a4 K FU (lN W) (lN A) (nI 0) = K (lN (Nat.gcd W A)) := by
    intro K
    have hz : ∀ n x i, L_X3_partOf_9 (lN A) (lN W) a4 K (n + 1) (lN x) (lN 0) i = K (lN x) := by
      intro n x i
      show B_X3_partOf_9 _ (lN A) (lN W) a4 _ (lN x) (lN 0) i = _
      unfold B_X3_partOf_9
      rw [if_pos ((lN_z (y := 0) (by omega)).mpr rfl)]
      split <;> rfl
    have hs : ∀ n x y i, 0 < y → x < 2 ^ 63 → y < 2 ^ 63 → i < 100 → L_X3_partOf_9 (lN A) (lN W) a4 K (n + 1) (lN x) (lN y) (nI i) = L_X3_partOf_9 (lN A) (lN W) a4 K n (lN y) (lN (x % y)) (nI (i + 1)) := by
      intro n x y i h1 h2 h3 h4
      show B_X3_partOf_9 _ (lN A) (lN W) a4 _ (lN x) (lN y) (nI i) = _
      unfold B_X3_partOf_9
      rw [if_neg (by rw [li_100]; exact nI_ge h4 (by omega)), if_neg (fun z => by have := (lN_z h3).mp z; omega), if_neg (fun z => by have := (lN_z' h3).mp z; omega), bn_e, pk_lRem h2 h1 h3, nI_1]
    by_cases a0 : A = 0
    · subst a0
      rw [Nat.gcd_zero_right]
      exact hz 999 W _
    · have s1 := hs 999 W A 0 (by omega) (by omega) (by omega) (by omega)
      refine s1.trans ?_
      rw [← gcd_st W A]
      exact (euclid _ K hz hs 88).1 A (W % A) (0 + 1) 999 (Nat.mod_lt _ (by omega)) (by omega) (by omega) (by omega) (by omega)
  unfold f_X3_partOf
  refine (key _).trans ?_
  have g63 : Nat.gcd W A < 2 ^ 63 := by omega
  have n1 : ¬ lg_cmp (lN (Nat.gcd W A)) 0 = 0 := fun z => by have := (lN_z g63).mp z; omega
  have n2 : ¬ lN (Nat.gcd W A) = 0 := fun z => by have := (lN_z' g63).mp z; omega
  unfold shareN
  rw [if_neg n1]
  by_cases q : a4 = 0
  · rw [if_pos q, if_pos q, if_neg n2]
  · rw [if_neg q, if_neg q, if_neg n2]
theorem r_partOf {A W : Nat} (hA : A ≤ 10 ^ 18) (hW : W ≤ 10 ^ 18) (h0 : 0 < W) (a4 : Int32) : f_X4_partOf (lN A) (lN W) a4 = some (shareN A W a4) := by
  have hg0 : 0 < Nat.gcd W A := Nat.gcd_pos_of_pos_left _ h0
  have hg : Nat.gcd W A ≤ W := Nat.gcd_le_left _ h0
  have g63 : Nat.gcd W A < 2 ^ 63 := by omega
  have hz : ∀ (n x : Nat) (i : Int32), (fun n x y (_ : Int32) => L_X4_common_6 (fun e3 => some e3) n x y) (n + 1) (lN x) (lN 0) i = some (lN x) := by
    intro n x i
    show B_X4_common_6 _ _ (lN x) (lN 0) = _
    unfold B_X4_common_6
    rw [if_pos ((lN_z (y := 0) (by omega)).mpr rfl)]
  have hs : ∀ (n x y i : Nat), 0 < y → x < 2 ^ 63 → y < 2 ^ 63 → i < 100 → (fun n x y (_ : Int32) => L_X4_common_6 (fun e3 => some e3) n x y) (n + 1) (lN x) (lN y) (nI i) = (fun n x y (_ : Int32) => L_X4_common_6 (fun e3 => some e3) n x y) n (lN y) (lN (x % y)) (nI (i + 1)) := by
    intro n x y i h1 h2 h3 _
    show B_X4_common_6 _ _ (lN x) (lN y) = _
    unfold B_X4_common_6
    rw [if_neg (fun z => by have := (lN_z h3).mp z; omega), if_neg (fun z => by have := (lN_z' h3).mp z; omega), bn_e, pk_lRem h2 h1 h3]
  have e := fp_big
  have key : f_X4_common (lN A) (lN W) = some (lN (Nat.gcd W A)) := by
    unfold f_X4_common
    have s1 := hs 999 A W 0 (by omega) (by omega) (by omega) (by omega)
    refine s1.trans ?_
    rw [Nat.gcd_comm, ← gcd_st A W]
    exact (euclid (fun n x y (_ : Int32) => L_X4_common_6 (fun e3 => some e3) n x y) some hz hs 88).1 W (A % W) (0 + 1) 999 (Nat.mod_lt _ (by omega)) (by omega) (by omega) (by omega) (by omega)
  have n2 : ¬ lN (Nat.gcd W A) = 0 := fun z => by have := (lN_z' g63).mp z; omega
  unfold f_X4_partOf shareN
  rw [bn_e, key]
  dsimp only
  rw [cp_s, cp_s, if_neg n2, if_neg n2]
  by_cases q : a4 = 0
  · rw [if_pos q, if_pos q]
  · rw [if_neg q, if_neg q]
section HOPE
variable {s : St} {b d : Nat} {m : MS}
theorem p_hope (hC : CM s (b + 1) 0 m) (hM : MM s d 0 m) (hB : BM m) (a1 a2 : Int32) : PP s (f_X3_hope b a1 a2) (f_X4_hope d a1 a2) := by
  unfold PP f_X3_hope f_X4_hope
  rw [c_isWithin a1 99 (n := 99) (by decide), c_isWithin a2 1 (n := 1) (by decide), r_inN a1 99 (n := 99) (by decide), r_inN a2 1 (n := 1) (by decide), cp_s, cp_s, cp_s, cp_s]
  cases h : wp a1 (99 + 1)
  · exact ⟨-1, rfl, rfl⟩
  rw [if_neg bt_ne, if_neg bt_ne]
  cases h2 : wp a2 (1 + 1)
  · exact ⟨-1, rfl, rfl⟩
  obtain ⟨n, hn, rfl⟩ := wp_of h (by omega)
  have l3 := hB.2.2.2.1
  have hm : n * m.1 1 3 ≤ 99 * 99 := Nat.mul_le_mul (by omega) l3
  rw [if_neg bt_ne, if_neg bt_ne, hC.2.2.2.2.1 3 (by omega), hM.1.2.2.2.1 3 (by omega), nI_l (by omega), nI_l (by omega), lN_mul, show (100 : Int64) = lN 100 from rfl, c_partOf (by omega) (by omega) (by omega), r_partOf (by omega) (by omega) (by omega), cp_s]
  exact ⟨_, rfl, rfl⟩
def bnC (n : Nat) : Nat → Nat
  | 0 => 1
  | i + 1 => bnC n i * (n - i) / (i + 1)
def bnR (n k : Nat) : Nat → Nat
  | 0 => 1
  | i + 1 => bnR n k i * (n - k + (i + 1)) / (i + 1)
theorem bn_ok : ∀ n, n < 9 → ∀ k, k < n + 1 → bnC n k = bnR n k k ∧ (∀ i, i < k + 1 → bnC n i ≤ 70 ∧ bnR n k i ≤ 70) := by decide +kernel
def pwN (k q : Nat) : Nat → Nat
  | 0 => 1
  | i + 1 => pwN k q i * (if k ≤ i then 100 - q else q)
theorem pwN_le (k : Nat) {q : Nat} (hq : q ≤ 99) : ∀ i, pwN k q i ≤ 100 ^ i
  | 0 => Nat.le_refl _
  | i + 1 => by
    rw [Nat.pow_succ]
    exact Nat.mul_le_mul (pwN_le k hq i) (by split <;> omega)
theorem pow100 : ∀ i, i < 9 → 100 ^ i ≤ 10 ^ 16 := by decide
theorem c_binom (b : Nat) {n k : Nat} (hn : n ≤ 8) (hk : k ≤ n) (a3 : Int32) (K : Int64 → Option Int64) : L_X3_odds_38 b (nI n) (nI k) a3 K FU (1 : Int64) (0 : Int32) = K (lN (bnC n k)) := by
  have hb := (bn_ok n (by omega) k (by omega)).2
  refine loopA' (fun r x i => L_X3_odds_38 b (nI n) (nI k) a3 K r x i) K k (by omega) (fun i => lN (bnC n i)) (fun r => ?_) (fun r i hi => ?_)
  · show B_X3_odds_38 _ b (nI n) (nI k) a3 K _ _ = _
    unfold B_X3_odds_38
    rw [if_pos (nI_le (Nat.le_refl _) (by omega))]
  · show B_X3_odds_38 (L_X3_odds_38 b (nI n) (nI k) a3 K r) b (nI n) (nI k) a3 K _ _ = L_X3_odds_38 b (nI n) (nI k) a3 K r (lN (bnC n i * (n - i) / (i + 1))) _
    have h1 := (hb i (by omega)).1
    have h2 : bnC n i * (n - i) ≤ 70 * 8 := Nat.mul_le_mul h1 (by omega)
    unfold B_X3_odds_38
    rw [if_neg (nI_ge hi (by omega)), nI_1, nI_l (by omega), if_neg (fun z => by have := (lN_z' (y := i + 1) (by omega)).mp z; omega), pk_sub (by omega), nI_l (by omega), lN_mul, pk_lDiv (by omega) (by omega) (by omega), bn_e]
theorem r_binom {n k : Nat} (hn : n ≤ 8) (hk : k ≤ n) (a3 : Int32) (e7 e8 : Int64) (K : Int64 → Option Int64) : L_X4_odds_103 (nI n) (nI k) a3 e7 e8 K FU (1 : Int64) (1 : Int32) = K (lN (bnR n k k)) := by
  have hb := (bn_ok n (by omega) k (by omega)).2
  obtain ⟨x, e, hx, _⟩ := loopR (fun r i (x : Int64) => L_X4_odds_103 (nI n) (nI k) a3 e7 e8 K r x i) K (k + 1) (fun i x => x = lN (bnR n k (i - 1)) ∧ 1 ≤ i) (fun r x _ => by
    show B_X4_odds_103 _ (nI n) (nI k) a3 e7 e8 K x (nI (k + 1)) = _
    unfold B_X4_odds_103
    rw [if_pos (nI_lt (by omega) (by omega))]) (fun r i x hi ⟨q1, q2⟩ => by
    subst q1
    obtain ⟨i, rfl⟩ : ∃ j, i = j + 1 := ⟨i - 1, by omega⟩
    show ∃ s' : Int64, B_X4_odds_103 (L_X4_odds_103 (nI n) (nI k) a3 e7 e8 K r) (nI n) (nI k) a3 e7 e8 K (lN (bnR n k i)) (nI (i + 1)) = L_X4_odds_103 (nI n) (nI k) a3 e7 e8 K r s' (nI (i + 1 + 1)) ∧ _
    have h1 := (hb i (by omega)).2
    have h2 : bnR n k i * (n - k + (i + 1)) ≤ 70 * 9 := Nat.mul_le_mul h1 (by omega)
    unfold B_X4_odds_103
    rw [if_neg (nI_nlt (by omega) (by omega)), nI_l (by omega), if_neg (fun z => by have := (lN_z' (y := i + 1) (by omega)).mp z; omega), pk_sub (by omega), nI_add, nI_l (by omega), lN_mul, pk_lDiv (by omega) (by omega) (by omega), bn_e, nI_1]
    exact ⟨_, rfl, rfl, by omega⟩) k 1 (1 : Int64) FU (by omega) (by show k < 1000; omega) ⟨rfl, Nat.le_refl _⟩
  rw [show (1 : Int32) = nI 1 from rfl]
  refine e.trans ?_
  rw [hx, Nat.add_sub_cancel]
theorem p_odds (hC : CM s (b + 1) 0 m) (hM : MM s d 0 m) (hB : BM m) (a1 a2 a3 : Int32) : PP s (f_X3_odds b a1 a2 a3) (f_X4_odds d a1 a2 a3) := by
  unfold PP f_X3_odds f_X4_odds
  rw [c_isWithin a1 8 (n := 8) (by decide), r_inN a1 8 (n := 8) (by decide), cp_s, cp_s]
  cases h : wp a1 (8 + 1)
  · exact ⟨-1, rfl, rfl⟩
  obtain ⟨n, hn, rfl⟩ := wp_of h (by omega)
  rw [if_neg bt_ne, if_neg bt_ne, c_isWithin a2 (nI n) (nI_toInt (by omega)), r_inN a2 (nI n).toInt64 (n := n) (by rw [Int32.toInt_toInt64, nI_toInt (by omega)]), cp_s, cp_s]
  cases h2 : wp a2 (n + 1)
  · exact ⟨-1, rfl, rfl⟩
  obtain ⟨k, hk, rfl⟩ := wp_of h2 (by omega)
  rw [if_neg bt_ne, if_neg bt_ne, c_isWithin a3 1 (n := 1) (by decide), r_inN a3 1 (n := 1) (by decide), cp_s, cp_s]
  cases h3 : wp a3 (1 + 1)
  · exact ⟨-1, rfl, rfl⟩
  have l3 := hB.2.2.2.1
  obtain ⟨hbe, hb⟩ := bn_ok n (by omega) k hk
  have hbk := (hb k (by omega)).1
  rw [if_neg bt_ne, if_neg bt_ne, c_binom b (by omega) (by omega)]
  generalize bnC n k = C at hbe hbk
  have tv : ∀ (x : Int32) (i : Nat), i < 9 → x = nI (m.1 1 3) → (if nI k ≤ nI i then ((100 : Int32) - x).toInt64 else x.toInt64) = lN (if k ≤ i then 100 - m.1 1 3 else m.1 1 3) := by
    intro x i hi hx
    subst hx
    by_cases q : k ≤ i
    · rw [if_pos (nI_le q (by omega)), if_pos q, show (100 : Int32) = nI 100 from rfl, pk_sub (by omega), nI_l (by omega)]
    · rw [if_neg (nI_ge (by omega) (by omega)), if_neg q, nI_l (by omega)]
  obtain ⟨q, e1, q1, q2⟩ := loopR (fun r i (q : Int64 × Int64) => L_X3_odds_69 b (nI n) (nI k) a3 s (fun (e11 : Int64) (e12 : Int64) => cp (f_X3_partOf e11 e12 a3) fun x17 => some x17) r q.1 q.2 i) (fun q => cp (f_X3_partOf q.1 q.2 a3) fun x17 => some x17) n (fun i q => q.1 = lN (C * pwN k (m.1 1 3) i) ∧ q.2 = lN (100 ^ i)) (fun r q _ => by
    show B_X3_odds_69 _ b (nI n) (nI k) a3 s _ q.1 q.2 (nI n) = _
    unfold B_X3_odds_69
    rw [if_pos (nI_le (Nat.le_refl _) (by omega))]) (fun r i q hi ⟨q1, q2⟩ => by
    obtain ⟨x, y⟩ := q
    dsimp only at q1 q2
    subst q1 q2
    show ∃ s' : Int64 × Int64, B_X3_odds_69 (L_X3_odds_69 b (nI n) (nI k) a3 s (fun (e11 : Int64) (e12 : Int64) => cp (f_X3_partOf e11 e12 a3) fun x17 => some x17) r) b (nI n) (nI k) a3 s _ _ _ (nI i) = L_X3_odds_69 b (nI n) (nI k) a3 s (fun (e11 : Int64) (e12 : Int64) => cp (f_X3_partOf e11 e12 a3) fun x17 => some x17) r s'.1 s'.2 (nI (i + 1)) ∧ _
    unfold B_X3_odds_69
    rw [if_neg (nI_ge hi (by omega)), bn_if2, tv _ i (by omega) (hC.2.2.2.2.1 3 (by omega))]
    dsimp only
    rw [bn_e, bn_e, lN_mul, show (100 : Int64) = lN 100 from rfl, lN_mul, nI_1, Nat.mul_assoc]
    exact ⟨(lN (C * pwN k (m.1 1 3) (i + 1)), lN (100 ^ (i + 1))), by rw [Nat.pow_succ]; rfl, rfl, rfl⟩) n 0 (lN C, 1) FU (by omega) (by show n < 1000; omega) ⟨by rw [show pwN k (m.1 1 3) 0 = 1 from rfl, Nat.mul_one], rfl⟩
  obtain ⟨q', e2, q1', q2'⟩ := loopR (fun r i (q : Int64 × Int64) => L_X4_odds_46 d (nI n) (nI k) a3 s (fun (e7 : Int64) (e8 : Int64) => L_X4_odds_103 (nI n) (nI k) a3 e7 e8 (fun (e15 : Int64) => cp (f_X4_partOf (e15 * e7) e8 a3) fun x17 => some x17) FU (1 : Int64) (1 : Int32)) r q.1 q.2 i) (fun q => L_X4_odds_103 (nI n) (nI k) a3 q.1 q.2 (fun (e15 : Int64) => cp (f_X4_partOf (e15 * q.1) q.2 a3) fun x17 => some x17) FU (1 : Int64) (1 : Int32)) n (fun i q => q.1 = lN (pwN k (m.1 1 3) i) ∧ q.2 = lN (100 ^ i)) (fun r q _ => by
    show B_X4_odds_46 _ d (nI n) (nI k) a3 s _ q.1 q.2 (nI n) = _
    unfold B_X4_odds_46
    rw [if_pos (nI_le (Nat.le_refl _) (by omega))]) (fun r i q hi ⟨q1, q2⟩ => by
    obtain ⟨x, y⟩ := q
    dsimp only at q1 q2
    subst q1 q2
    show ∃ s' : Int64 × Int64, B_X4_odds_46 (L_X4_odds_46 d (nI n) (nI k) a3 s (fun (e7 : Int64) (e8 : Int64) => L_X4_odds_103 (nI n) (nI k) a3 e7 e8 (fun (e15 : Int64) => cp (f_X4_partOf (e15 * e7) e8 a3) fun x17 => some x17) FU (1 : Int64) (1 : Int32)) r) d (nI n) (nI k) a3 s _ _ _ (nI i) = L_X4_odds_46 d (nI n) (nI k) a3 s (fun (e7 : Int64) (e8 : Int64) => L_X4_odds_103 (nI n) (nI k) a3 e7 e8 (fun (e15 : Int64) => cp (f_X4_partOf (e15 * e7) e8 a3) fun x17 => some x17) FU (1 : Int64) (1 : Int32)) r s'.1 s'.2 (nI (i + 1)) ∧ _
    unfold B_X4_odds_46
    rw [if_neg (nI_ge hi (by omega)), bn_if2, tv _ i (by omega) (hM.1.2.2.2.1 3 (by omega))]
    dsimp only
    rw [bn_e, bn_e, lN_mul, show (100 : Int64) = lN 100 from rfl, lN_mul, nI_1]
    exact ⟨(lN (pwN k (m.1 1 3) (i + 1)), lN (100 ^ (i + 1))), by rw [Nat.pow_succ]; rfl, rfl, rfl⟩) n 0 (1, 1) FU (by omega) (by show n < 1000; omega) ⟨rfl, rfl⟩
  dsimp only at e1 e2
  rw [nI_0] at e1 e2
  have p1 := pwN_le k l3 n
  have p2 := pow100 n (by omega)
  have p3 : C * pwN k (m.1 1 3) n ≤ 70 * 10 ^ 16 := Nat.mul_le_mul hbk (by omega)
  have p4 : 0 < 100 ^ n := Nat.pos_of_ne_zero (by simp)
  rw [q1, q2, c_partOf (by omega) (by omega) p4, cp_s] at e1
  rw [q1', q2', r_binom (by omega) (by omega), ← hbe, lN_mul, r_partOf (by omega) (by omega) p4, cp_s] at e2
  exact ⟨_, e1, e2⟩
end HOPE
