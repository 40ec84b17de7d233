/-! feed -/
def sbI (y : Nat) : Int32 := if y < 128 then nI y else nI y - nI 256
/-- the tape lies alike -/
def TP (s : St) (b d L : Nat) (T : Nat → Nat) : Prop := L ≤ 200 ∧ gF s (b + 28) 1 = nI L ∧ gF s d 7 = nI L ∧ (∀ i, i < L → T i < 256 ∧ gA s ((b + 28) + 1) i = sbI (T i) ∧ gA s (d + 5) i = nI (T i))
def XT (s : St) (b d : Nat) : Prop := ∃ L T, TP s b d L T
theorem sb_e (x : Int32) : x.toInt8.toInt32 = sbI (x.toBitVec.toNat % 256) := by
  apply Int32.toInt_inj.mp
  rw [lg_i2b_toInt]
  have h1 : x.toInt = if 2 * x.toBitVec.toNat < 2 ^ 32 then (x.toBitVec.toNat : Int) else (x.toBitVec.toNat : Int) - (2 ^ 32 : Nat) := BitVec.toInt_eq_toNat_cond _
  have hx : x.toBitVec.toNat < 2 ^ 32 := x.toBitVec.isLt
  have h2 : (sbI (x.toBitVec.toNat % 256)).toInt = if x.toBitVec.toNat % 256 < 128 then ((x.toBitVec.toNat % 256 : Nat) : Int) else ((x.toBitVec.toNat % 256 : Nat) : Int) - 256 := by
    unfold sbI
    split
    · rw [nI_toInt (by omega)]
    · rw [pk_sub_toInt (by omega) (by omega)]; rfl
  rw [h2, h1, Int.bmod_def]
  generalize x.toBitVec.toNat = n at *
  split <;> split <;> split <;> omega
theorem sb_i (x : Int32) : x.toInt8.toInt32.toInt8.toInt32 = x.toInt8.toInt32 := by
  obtain ⟨h1, h2⟩ := lg_i2b_range x
  exact lg_i2b_small h1 h2
theorem sh8 : ∀ i, i < 8 → (8 : Int32) * nI i = nI (8 * i) := by decide +kernel
theorem c_byte {A i : Nat} (hA : A < 2 ^ 64) (hi : i < 8) : ((((((lN A).toUInt64 >>> ((((8 : Int32) * nI i)).toInt64.toUInt64 &&& Int64.toUInt64 63)).toInt64).toInt32).toInt8.toInt32).toInt8.toInt32) = sbI (A / 2 ^ (8 * i) % 256) := by
  rw [sh8 i hi, wb_shr hA (by omega), lN_i, sb_i, sb_e]
  congr 1
  show A / 2 ^ (8 * i) % 2 ^ 32 % 256 = _
  omega
theorem bit255 : ∀ i, i < 64 → (BitVec.ofNat 64 255).getLsbD i = decide (i < 8) := by decide +kernel
theorem r_byte {A i : Nat} (hA : A < 2 ^ 64) (hi : i < 8) : (((lN A >>> ((((8 : Int32) * nI i)).toInt64 &&& 63)) &&& (255 : Int64))).toInt32 = nI (A / 2 ^ (8 * i) % 256) := by
  rw [sh8 i hi, wb_c (8 * i) (by omega)]
  have e : (lN A >>> lN (8 * i)) &&& (255 : Int64) = lN (A / 2 ^ (8 * i) % 256) := by
    have hm : A / 2 ^ (8 * i) % 256 < 256 := Nat.mod_lt _ (by decide)
    apply wb_inj
    rw [Int64.toBitVec_and, Int64.toBitVec_shiftRight]
    show ((lN A).toBitVec.sshiftRight ((lN (8 * i)).toBitVec.smod 64).toNat) &&& BitVec.ofNat 64 255 = _
    rw [wb_tb, wb_tb, wb_tb, wb_sm (8 * i) (by omega), BitVec.toNat_ofNat, Nat.mod_eq_of_lt (show 8 * i < 2 ^ 64 by omega)]
    apply BitVec.eq_of_getLsbD_eq
    intro j hj
    rw [BitVec.getLsbD_and, bit255 j hj, BitVec.getLsbD_sshiftRight, BitVec.getLsbD_ofNat, BitVec.getLsbD_ofNat, decide_eq_true hj, Bool.true_and]
    rw [show (256 : Nat) = 2 ^ 8 from rfl, Nat.testBit_mod_two_pow, Nat.testBit_div_two_pow]
    by_cases q : j < 8
    · rw [decide_eq_true q, Bool.and_true, Bool.true_and, if_pos (show 8 * i + j < 64 by omega), decide_eq_true (show 8 * i + j < 64 by omega), Bool.true_and, decide_eq_false (show ¬ 64 ≤ j by omega), Nat.add_comm j]
      rfl
    · rw [decide_eq_false q, Bool.and_false, Bool.false_and]
  rw [e, lN_i]
def wFeed (b d : Nat) : Nat → Prop := fun k => k = b + 29 ∨ k = d + 5
def uFeed (b d : Nat) : Nat → Nat → Prop := fun k j => (k = b + 28 ∧ j = 1) ∨ (k = d ∧ j = 7)
section FEED
variable {s : St} {b d : Nat}
theorem c_takes {A n L : Nat} (hA : A < 2 ^ 64) (hn : n ≤ 8) (hL : L + n ≤ 200) (h1 : gF s b 1 = nI L) (K : St → Option (Int32 × St)) : ∃ s', L_X2_takes_17 b (lN A) (nI n) K FU (0 : Int32) s = K s' ∧ Fr2 (fun k => k = b + 1) (fun k j => k = b ∧ j = 1) s s' ∧ gF s' b 1 = nI (L + n) ∧ (∀ i, i < L → gA s' (b + 1) i = gA s (b + 1) i) ∧ ∀ i, i < n → gA s' (b + 1) (L + i) = sbI (A / 2 ^ (8 * i) % 256) := by
  refine loop0 (fun r c s => L_X2_takes_17 b (lN A) (nI n) K r c s) K n (by omega) (fun j t => Fr2 (fun k => k = b + 1) (fun k j => k = b ∧ j = 1) s t ∧ gF t b 1 = nI (L + j) ∧ (∀ i, i < L → gA t (b + 1) i = gA s (b + 1) i) ∧ ∀ i, i < j → gA t (b + 1) (L + i) = sbI (A / 2 ^ (8 * i) % 256)) s ⟨Fr2.rf, h1, fun _ _ => rfl, fun i hi => absurd hi (by omega)⟩ ?_ ?_
  · intro r t _
    show B_X2_takes_17 _ b (lN A) (nI n) K (nI n) t = _
    unfold B_X2_takes_17
    exact if_pos (nI_le (Nat.le_refl n) (by omega))
  · intro r j t hj ⟨h1, h2, h3, h4⟩
    show ∃ s', B_X2_takes_17 (L_X2_takes_17 b (lN A) (nI n) K r) b (lN A) (nI n) K (nI j) t = L_X2_takes_17 b (lN A) (nI n) K r (nI (j + 1)) s' ∧ _
    unfold B_X2_takes_17
    rw [if_neg (nI_ge hj (by omega)), h2, gd_n (show L + j < 200 by omega) (by omega), ix_n (by omega), c_byte hA (by omega), bn_e, gF_pA, h2, bn_e, nI_1, nI_1]
    refine ⟨_, rfl, (h1.tr (Fr.to2 (Fr.pA rfl))).tr (Fr2.pF ⟨rfl, rfl⟩), by rw [gF_pF, if_pos ⟨rfl, rfl⟩]; rfl, fun i hi => ?_, fun i hi => ?_⟩
    · rw [gA_pF, gA_pA, if_neg (by omega)]; exact h3 i hi
    · rw [gA_pF, gA_pA]
      by_cases q : i = j
      · rw [if_pos ⟨rfl, by omega⟩, q]
      · rw [if_neg (by omega)]; exact h4 i (by omega)
theorem r_takes {A n L : Nat} (hA : A < 2 ^ 64) (hn : n ≤ 8) (hL : L + n ≤ 200) (h1 : gF s d 7 = nI L) (K : St → Option (Int32 × St)) : ∃ s', L_X4_feed_32 d (lN A) (nI n) K FU (0 : Int32) s = K s' ∧ Fr2 (fun k => k = d + 5) (fun k j => k = d ∧ j = 7) s s' ∧ gF s' d 7 = nI (L + n) ∧ (∀ i, i < L → gA s' (d + 5) i = gA s (d + 5) i) ∧ ∀ i, i < n → gA s' (d + 5) (L + i) = nI (A / 2 ^ (8 * i) % 256) := by
  refine loop0 (fun r c s => L_X4_feed_32 d (lN A) (nI n) K r c s) K n (by omega) (fun j t => Fr2 (fun k => k = d + 5) (fun k j => k = d ∧ j = 7) s t ∧ gF t d 7 = nI (L + j) ∧ (∀ i, i < L → gA t (d + 5) i = gA s (d + 5) i) ∧ ∀ i, i < j → gA t (d + 5) (L + i) = nI (A / 2 ^ (8 * i) % 256)) s ⟨Fr2.rf, h1, fun _ _ => rfl, fun i hi => absurd hi (by omega)⟩ ?_ ?_
  · intro r t _
    show B_X4_feed_32 _ d (lN A) (nI n) K (nI n) t = _
    unfold B_X4_feed_32
    exact if_pos (nI_le (Nat.le_refl n) (by omega))
  · intro r j t hj ⟨h1, h2, h3, h4⟩
    show ∃ s', B_X4_feed_32 (L_X4_feed_32 d (lN A) (nI n) K r) d (lN A) (nI n) K (nI j) t = L_X4_feed_32 d (lN A) (nI n) K r (nI (j + 1)) s' ∧ _
    unfold B_X4_feed_32
    rw [if_neg (nI_ge hj (by omega)), h2, gd_n (show L + j < 200 by omega) (by omega), ix_n (by omega), r_byte hA (by omega), bn_e, gF_pA, h2, bn_e, nI_1, nI_1]
    refine ⟨_, rfl, (h1.tr (Fr.to2 (Fr.pA rfl))).tr (Fr2.pF ⟨rfl, rfl⟩), by rw [gF_pF, if_pos ⟨rfl, rfl⟩]; rfl, fun i hi => ?_, fun i hi => ?_⟩
    · rw [gA_pF, gA_pA, if_neg (by omega)]; exact h3 i hi
    · rw [gA_pF, gA_pA]
      by_cases q : i = j
      · rw [if_pos ⟨rfl, by omega⟩, q]
      · rw [if_neg (by omega)]; exact h4 i (by omega)
theorem XT.fr2 {w : Nat → Prop} {u : Nat → Nat → Prop} {t : St} (h : XT s b d) (f : Fr2 w u s t) (h1 : ¬ w (b + 28)) (h2 : ¬ w (b + 29)) (h3 : ¬ w d) (h4 : ¬ w (d + 5)) (h5 : ¬ u (b + 28) 1) (h6 : ¬ u d 7) : XT t b d := by
  obtain ⟨L, T, e1, e2, e3, e4⟩ := h
  exact ⟨L, T, e1, (f.1 _ 1 h1 h5).trans e2, (f.1 d 7 h3 h6).trans e3, fun i hi => ⟨(e4 i hi).1, ((f.2 (b + 28 + 1) h2).1 i).trans (e4 i hi).2.1, ((f.2 (d + 5) h4).1 i).trans (e4 i hi).2.2⟩⟩
theorem p_feed (hd : d = b + 53) (hX : XT s b d) (a1 : Int64) (a3 : Int32) : ∃ x s1 s2, f_X3_feed b a1 a3 s = some (x, s1) ∧ f_X4_feed d a1 a3 s1 = some (x, s2) ∧ XT s2 b d ∧ Fr2 (wFeed b d) (uFeed b d) s s2 := by
  obtain ⟨A, hA, rfl⟩ := wb_of a1
  obtain ⟨L, T, hL, h1, h2, h3⟩ := hX
  have hX0 : XT s b d := ⟨L, T, hL, h1, h2, h3⟩
  have c1 := f_X3_feed.eq_1 b (lN A) a3 s
  have r1 : ∀ t, f_X4_feed d (lN A) a3 t = _ := fun t => by unfold f_X4_feed; rw [r_inLo a3 1 8, cp_s, show (1 : Int64).toInt = 1 from rfl, show (8 : Int64).toInt = 8 from rfl]
  have l1 : (a3 < (1 : Int32)) ↔ a3.toInt < 1 := by rw [Int32.lt_iff_toInt_lt]; rfl
  have l2 : (a3 ≤ (8 : Int32)) ↔ a3.toInt ≤ 8 := by rw [Int32.le_iff_toInt_le]; rfl
  by_cases y : (1 : Int) ≤ a3.toInt ∧ a3.toInt ≤ 8
  · obtain ⟨n, hn⟩ : ∃ n : Nat, a3.toInt = n := ⟨a3.toInt.toNat, by omega⟩
    have e3 := nI_back hn (by omega)
    rw [if_neg (fun t => by have := l1.mp t; omega), if_pos (l2.mpr y.2)] at c1
    have r2 : ∀ t, f_X4_feed d (lN A) a3 t = _ := fun t => by rw [r1, decide_eq_true y, if_neg bt_ne]
    subst e3
    have e4 : (nI n ≤ (200 : Int32) - nI L) ↔ L + n ≤ 200 := by
      rw [li_200, pk_sub hL]
      exact (nI_leI (by omega) (by omega)).trans (by omega)
    have e5 : (nI L + nI n ≤ (200 : Int32)) ↔ L + n ≤ 200 := by
      rw [nI_add, li_200]
      exact nI_leI (by omega) (by omega)
    unfold f_X2_takes at c1
    rw [h1] at c1
    by_cases z : L + n ≤ 200
    · obtain ⟨s1, k1, f1, g1, g2, g3⟩ := c_takes (b := b + 28) hA (n := n) (by omega) z h1 (fun (s3 : St) => some ((1 : Int32), s3))
      rw [if_pos (e4.mpr z), k1, cb_s, if_neg (by decide), g1] at c1
      have h2' : gF s1 d 7 = nI L := (f1.1 d 7 (by omega) (by omega)).trans h2
      obtain ⟨s2, k2, f2, m1, m2, m3⟩ := r_takes (d := d) hA (n := n) (by omega) z h2' (fun (s4 : St) => some ((gF s4 d 7), s4))
      refine ⟨nI (L + n), s1, s2, c1, ?_, ⟨L + n, fun i => if i < L then T i else A / 2 ^ (8 * (i - L)) % 256, z, ?_, m1, fun i hi => ?_⟩, (f1.wk (fun k q => Or.inl q) (fun k j q => Or.inl q)).tr (f2.wk (fun k q => Or.inr q) (fun k j q => Or.inr q))⟩
      · rw [r2, h2', if_pos (e5.mpr z), k2, m1]
      · rw [f2.1 (b + 28) 1 (by omega) (by omega)]; exact g1
      · rw [(f2.2 (b + 28 + 1) (by omega)).1]
        by_cases q : i < L
        · dsimp only
          rw [if_pos q, g2 i q, m2 i q, (f1.2 (d + 5) (by omega)).1]
          exact h3 i q
        · dsimp only
          have e : i = L + (i - L) := by omega
          rw [if_neg q]
          refine ⟨Nat.mod_lt _ (by decide), ?_, ?_⟩
          · conv => lhs; rw [e]
            exact g3 (i - L) (by omega)
          · conv => lhs; rw [e]
            exact m3 (i - L) (by omega)
    · rw [if_neg (fun t => z (e4.mp t)), cb_s] at c1
      exact ⟨-2, s, s, c1, by rw [r2, h2, if_neg (fun t => z (e5.mp t))], hX0, Fr2.rf⟩
  · refine ⟨-1, s, s, ?_, by rw [r1, decide_eq_false y]; rfl, hX0, Fr2.rf⟩
    rw [c1]
    by_cases w : a3.toInt < 1
    · rw [if_pos (l1.mpr w)]
    · rw [if_neg (fun t => w (l1.mp t)), if_neg (fun t => by have := l2.mp t; omega)]
end FEED
