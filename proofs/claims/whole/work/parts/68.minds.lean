/-! minds, shelf, taken -/
def hvN (x : Int32) : Nat := if x < 0 then 0 else if 99 < x then 99 else x.toInt.toNat
theorem hvN_le (x : Int32) : hvN x ≤ 99 := by
  unfold hvN
  split
  · omega
  · split
    · omega
    · rename_i h2
      rw [Int32.lt_iff_toInt_lt, show ((99 : Int32)).toInt = 99 from rfl] at h2
      omega
theorem hvN_n {x : Int32} (h1 : ¬ x < 0) (h2 : ¬ (99 : Int32) < x) : x = nI (hvN x) := by
  unfold hvN
  rw [if_neg h1, if_neg h2]
  rw [Int32.lt_iff_toInt_lt, show ((99 : Int32)).toInt = 99 from rfl] at h2
  rw [Int32.lt_iff_toInt_lt, show ((0 : Int32)).toInt = 0 from rfl] at h1
  apply Int32.toInt_inj.mp
  rw [nI_toInt (by omega)]
  omega
theorem c_held (x : Int32) : f_X3_heldSure x = some (nI (hvN x)) := by
  unfold f_X3_heldSure mmax mmin
  by_cases h1 : x < 0
  · have h2 : x < 99 := by rw [Int32.lt_iff_toInt_lt] at h1 ⊢; exact Int.lt_trans h1 (by decide)
    have h3 : ¬ (0 : Int32) < x := by rw [Int32.lt_iff_toInt_lt] at h1 ⊢; exact Int.not_lt.mpr (Int.le_of_lt h1)
    rw [if_pos h2, if_neg h3, show hvN x = 0 from if_pos h1]; rfl
  · by_cases h2 : (99 : Int32) < x
    · have h3 : ¬ x < 99 := by rw [Int32.lt_iff_toInt_lt] at h2 ⊢; exact Int.not_lt.mpr (Int.le_of_lt h2)
      rw [if_neg h3, if_pos (by decide), show hvN x = 99 from (if_neg h1).trans (if_pos h2)]; rfl
    · have e := hvN_n h1 h2
      have l := hvN_le x
      rw [← e]
      congr 1
      by_cases h3 : x < 99
      · rw [if_pos h3]
        by_cases h4 : (0 : Int32) < x
        · rw [if_pos h4]
        · rw [if_neg h4]
          rw [Int32.lt_iff_toInt_lt] at h4 h1
          exact Int32.toInt_inj.mp (by omega)
      · rw [if_neg h3, if_pos (by decide)]
        rw [Int32.lt_iff_toInt_lt] at h3 h2
        exact Int32.toInt_inj.mp (by omega)
theorem r_heldI (x : Int32) : f_X4_held x = some (nI (hvN x)) := by
  unfold f_X4_held
  by_cases h1 : x < 0
  · rw [if_neg (by rw [Int32.lt_iff_toInt_lt] at h1; rw [Int32.le_iff_toInt_le]; omega), show hvN x = 0 from if_pos h1]; rfl
  · rw [if_pos (by rw [Int32.lt_iff_toInt_lt] at h1; rw [Int32.le_iff_toInt_le]; omega)]
    by_cases h2 : (99 : Int32) < x
    · rw [if_neg (by rw [Int32.lt_iff_toInt_lt] at h2; rw [Int32.le_iff_toInt_le]; omega), show hvN x = 99 from (if_neg h1).trans (if_pos h2)]; rfl
    · rw [if_pos (by rw [Int32.lt_iff_toInt_lt] at h2; rw [Int32.le_iff_toInt_le]; omega), ← hvN_n h1 h2]
def mnd (m : MS) (p : Nat) (g : Nat → Nat) : Nat → MS
  | 0 => m
  | k + 1 => setR (mnd m p g k) (5 + 2) (upN ((mnd m p g k).1 (5 + 2)) (p + k) (g k))
theorem mnd_0 (m : MS) (p : Nat) (g : Nat → Nat) : ∀ k, (mnd m p g k).1 0 0 = m.1 0 0
  | 0 => rfl
  | k + 1 => mnd_0 m p g k
theorem mnd_congr (m : MS) (p : Nat) {g g' : Nat → Nat} : ∀ k, (∀ j, j < k → g j = g' j) → mnd m p g k = mnd m p g' k
  | 0, _ => rfl
  | k + 1, h => by
    unfold mnd
    rw [mnd_congr m p k (fun j hj => h j (by omega)), h k (by omega)]
/-- what a shelf holds, by both sides' words -/
def HV (w n q h i z : Int32) : Prop := (w = 2 ∧ h = 0) ∨ (∃ p, p < 8 ∧ w = 0 ∧ n = nI p ∧ h = 1 ∧ i = nI p) ∨ (∃ j y, j < 4 ∧ y ≤ 40 ∧ w = 1 ∧ n = nI y ∧ q = nI j ∧ h = 2 ∧ i = nI j ∧ z = nI y)
/-- the shelves lie alike -/
def XH (s : St) (b d : Nat) : Prop := ∀ k, k < 4 → HV (gA s (b + 48) k) (gA s (b + 49) k) (gA s (b + 50) k) (gA s (d + 11) k) (gA s (d + 12) k) (gA s (d + 13) k)
def wShelf (b d : Nat) : Nat → Prop := fun k => (b + 48 ≤ k ∧ k ≤ b + 50) ∨ (d + 11 ≤ k ∧ k ≤ d + 13)
section MINDS
variable {s : St} {b d : Nat} {m : MS}
theorem BM.mnd (hB : BM m) {p : Nat} {g : Nat → Nat} (hg : ∀ k, g k ≤ 99) : ∀ k, BM (mnd m p g k)
  | 0 => hB
  | k + 1 => (BM.mnd hB hg k).setP 2 (by omega) (hg k)
theorem c_mindLoop (hC : CM s (b + 1) 0 m) {k i p n : Nat} (hk : k < 4) (hi : i + n ≤ 40) (hp : p + n ≤ 8) (K : St → Option (Int32 × St)) : ∃ s', L_X3_minds_98 b (nI k) (nI i) (nI p) (nI n) K FU (0 : Int32) s = K s' ∧ CM s' (b + 1) 0 (mnd m p (fun j => hvN (gL s (b + 44 + k) (i + j)).toInt32) n) ∧ Fr (fun x => x = b + 1 + 7) s s' := by
  refine loop0 (fun r c s => L_X3_minds_98 b (nI k) (nI i) (nI p) (nI n) K r c s) K n (by omega) (fun j t => CM t (b + 1) 0 (mnd m p (fun j => hvN (gL s (b + 44 + k) (i + j)).toInt32) j) ∧ Fr (fun x => x = b + 1 + 7) s t) s ⟨hC, Fr.rf⟩ ?_ ?_
  · intro r t _
    show B_X3_minds_98 _ b (nI k) (nI i) (nI p) (nI n) K (nI n) t = _
    unfold B_X3_minds_98
    exact if_pos (nI_le (Nat.le_refl n) (by omega))
  · intro r j t hj ⟨h1, h2⟩
    show ∃ s', B_X3_minds_98 (L_X3_minds_98 b (nI k) (nI i) (nI p) (nI n) K r) b (nI k) (nI i) (nI p) (nI n) K (nI j) t = L_X3_minds_98 b (nI k) (nI i) (nI p) (nI n) K r (nI (j + 1)) s' ∧ _
    unfold B_X3_minds_98
    rw [if_neg (nI_ge hj (by omega)), gd_n hk (by omega), nI_add, nI_add, gd_n (show i + j < 40 by omega) (by omega), c_held, cp_s, gd_n (show p + j < 8 by omega) (by omega), ix_n (n := k) (by omega), ix_n (n := i + j) (by omega), ix_n (n := p + j) (by omega), bn_e, nI_1, (h2 (b + 44 + k) (by omega)).2.2]
    exact ⟨_, rfl, h1.pP 2 (by omega), h2.tr (Fr.pA rfl)⟩
theorem r_mindLoop (hM : MM s d 0 m) {k i p n : Nat} (hk : k < 4) (hi : i + n ≤ 40) (hp : p + n ≤ 8) (K : St → Option (Int32 × St)) : ∃ s', L_X4_minds_103 d (nI k) (nI i) (nI p) (nI n) K FU (0 : Int32) s = K s' ∧ MM s' d 0 (mnd m p (fun j => hvN (gL s (d + 10) (40 * k + (i + j))).toInt32) n) ∧ Fr (fun x => x = d + 1) s s' := by
  refine loop0 (fun r c s => L_X4_minds_103 d (nI k) (nI i) (nI p) (nI n) K r c s) K n (by omega) (fun j t => MM t d 0 (mnd m p (fun j => hvN (gL s (d + 10) (40 * k + (i + j))).toInt32) j) ∧ Fr (fun x => x = d + 1) s t) s ⟨hM, Fr.rf⟩ ?_ ?_
  · intro r t _
    show B_X4_minds_103 _ d (nI k) (nI i) (nI p) (nI n) K (nI n) t = _
    unfold B_X4_minds_103
    exact if_pos (nI_le (Nat.le_refl n) (by omega))
  · intro r j t hj ⟨h1, h2⟩
    show ∃ s', B_X4_minds_103 (L_X4_minds_103 d (nI k) (nI i) (nI p) (nI n) K r) d (nI k) (nI i) (nI p) (nI n) K (nI j) t = L_X4_minds_103 d (nI k) (nI i) (nI p) (nI n) K r (nI (j + 1)) s' ∧ _
    unfold B_X4_minds_103
    rw [if_neg (nI_ge hj (by omega)), ix40, nI_add, nI_add, show 40 * k + i + j = 40 * k + (i + j) by omega, gd_n (show 40 * k + (i + j) < 160 by omega) (by omega), r_heldI, cp_s, r_p2' (by omega), cw_s, ix_n (n := 40 * k + (i + j)) (by omega), nI_1, (h2 (d + 10) (by omega)).2.2]
    exact ⟨_, rfl, h1.pP 2 (by omega), h2.tr (Fr.pA rfl)⟩
theorem p_minds (hd : d = b + 53) (hX : XS s b d) (hC : CM s (b + 1) 0 m) (hM : MM s d 0 m) (hB : BM m) (a1 a2 a3 a4 : Int32) : PO b d s (f_X3_minds b a1 a2 a3 a4) (f_X4_minds d a1 a2 a3 a4) := by
  have h8 := hB.1
  have c1 := f_X3_minds.eq_1 b a1 a2 a3 a4 s
  rw [c_isSheet, cp_s, c_isPerson hC h8, cp_s, c_isWithin a4 8 (n := 8) (by decide), cp_s, hC.2.2.1] at c1
  have r1 : ∀ t, MM t d 0 m → f_X4_minds d a1 a2 a3 a4 t = _ := fun t ht => by unfold f_X4_minds; rw [r_isSheet, cp_s, r_isPerson ht h8, cp_s, r_inN a4 8 (n := 8) (by decide), cp_s, ht.1.2.2.1]
  cases q1 : wp a1 4
  · rw [q1] at c1; exact PO.no hC hM hB c1 (by rw [r1 s hM, q1]; rfl)
  cases q2 : wp a3 (m.1 0 0)
  · rw [q1, q2] at c1; exact PO.no hC hM hB c1 (by rw [r1 s hM, q1, q2]; rfl)
  cases q3 : wp a4 (8 + 1)
  · rw [q1, q2, q3] at c1; exact PO.no hC hM hB c1 (by rw [r1 s hM, q1, q2, q3]; rfl)
  obtain ⟨k, hk, rfl⟩ := wp_of q1 (by omega)
  obtain ⟨p, hp, rfl⟩ := wp_of q2 (by omega)
  obtain ⟨n, hn, rfl⟩ := wp_of q3 (by omega)
  obtain ⟨j, z, hj, hz, g1, g2, g3, g4, g5⟩ := hX k hk
  obtain ⟨o1, o2⟩ := sort_0 j (by omega)
  have gk : ∀ {α : Type} (o : Option α), gd (ib (nI k) 4) o = o := fun o => gd_n hk (by omega)
  have ik : ix (nI k) = k := ix_n (by omega)
  have es : (nI (m.1 0 0) - nI p).toInt = (m.1 0 0 : Int) - p := pk_sub_toInt (by omega) (by omega)
  have e1 : (nI p + nI n ≤ nI (m.1 0 0)) ↔ p + n ≤ m.1 0 0 := by rw [nI_add]; exact nI_leI (by omega) (by omega)
  have e2 : (nI n ≤ nI (m.1 0 0) - nI p) ↔ p + n ≤ m.1 0 0 := by rw [Int32.le_iff_toInt_le, es, nI_toInt (by omega)]; omega
  simp only [q1, q2, q3, bI_t, gk, ik, e1, e2] at c1 r1
  rw [if_neg (by decide), if_neg (by decide), if_neg (by decide)] at c1
  have r2 : ∀ t, MM t d 0 m → f_X4_minds d (nI k) a2 (nI p) (nI n) t = _ := fun t ht => by rw [r1 t ht, if_neg (by decide), if_neg (by decide), if_neg (by decide)]
  by_cases y1 : p + n ≤ m.1 0 0
  · rw [if_pos y1, g1] at c1
    have r3 : ∀ t, MM t d 0 m → gA t (d + 8) k = nI j → gA t (d + 9) k = nI z → f_X4_minds d (nI k) a2 (nI p) (nI n) t = _ := fun t ht t1 t2 => by rw [r2 t ht, if_pos y1, t1, t2]
    by_cases y2 : j = 0
    · rw [if_pos (o1.mpr y2)] at c1
      exact PO.no hC hM hB c1 (by rw [r3 s hM g2 g4, if_pos (o2.mpr y2)])
    obtain ⟨o3, _, o4, _⟩ := sort_n j (by omega) y2
    rw [if_neg (fun t => y2 (o1.mp t))] at c1
    by_cases y3 : j = 1
    · rw [if_pos (o3.mpr y3), g3, c_isWithin a2 (nI z) (n := z) (nI_toInt (by omega)), cp_s] at c1
      have iz : (nI z).toInt64.toInt = (z : Int) := by rw [Int32.toInt_toInt64, nI_toInt (by omega)]
      have r4 : ∀ t, MM t d 0 m → gA t (d + 8) k = nI j → gA t (d + 9) k = nI z → f_X4_minds d (nI k) a2 (nI p) (nI n) t = _ := fun t ht t1 t2 => by rw [r3 t ht t1 t2, if_neg (fun t => y2 (o2.mp t)), if_pos (o4.mpr y3), r_inN a2 _ iz, cp_s]
      cases q4 : wp a2 (z + 1)
      · rw [q4] at c1; exact PO.no hC hM hB c1 (by rw [r4 s hM g2 g4, q4]; rfl)
      obtain ⟨i, hi, rfl⟩ := wp_of q4 (by omega)
      have es2 : (nI z - nI i).toInt = (z : Int) - i := pk_sub_toInt (by omega) (by omega)
      have e3 : (nI n ≤ nI z - nI i) ↔ i + n ≤ z := by rw [Int32.le_iff_toInt_le, es2, nI_toInt (by omega)]; omega
      rw [q4, if_neg bt_ne] at c1
      by_cases y4 : i + n ≤ z
      · rw [if_pos (e3.mpr y4)] at c1
        obtain ⟨s1, k1, m1, f1⟩ := c_mindLoop (k := k) (i := i) (p := p) (n := n) hC hk (by omega) (by omega) (fun (s11 : St) => some (nI n, s11))
        rw [k1] at c1
        refine PO.mk hd hM (hB.mnd (fun _ => hvN_le _) n) c1 (f1.wk (fun k q => by unfold wC; omega)) m1 (fun hM1 => ?_)
        obtain ⟨s2, k2, m2, f2⟩ := r_mindLoop (k := k) (i := i) (p := p) (n := n) hM1 hk (by omega) (by omega) (fun (s11 : St) => some (nI n, s11))
        refine ⟨s2, ?_, f2.wk (fun k q => Or.inl q), ?_⟩
        · rw [r4 s1 hM1 (((f1 (d + 8) (by omega)).2.1 k).trans g2) (((f1 (d + 9) (by omega)).2.1 k).trans g4), q4, if_neg bt_ne, if_pos (e3.mpr y4)]
          exact k2
        · have key := mnd_congr m p (g := fun j => hvN (gL s1 (d + 10) (40 * k + (i + j))).toInt32) (g' := fun j => hvN (gL s (b + 44 + k) (i + j)).toInt32) n (fun j hj => by
            show hvN (gL s1 (d + 10) (40 * k + (i + j))).toInt32 = hvN (gL s (b + 44 + k) (i + j)).toInt32
            rw [(f1 (d + 10) (by omega)).2.2, ← g5 (i + j) (by omega)])
          exact key ▸ m2
      · rw [if_neg (fun t => y4 (e3.mp t))] at c1
        exact PO.no hC hM hB c1 (by rw [r4 s hM g2 g4, q4, if_neg bt_ne, if_neg (fun t => y4 (e3.mp t))])
    · rw [if_neg (fun t => y3 (o3.mp t))] at c1
      exact PO.no hC hM hB c1 (by rw [r3 s hM g2 g4, if_neg (fun t => y2 (o2.mp t)), if_neg (fun t => y3 (o4.mp t))])
  · rw [if_neg y1] at c1
    exact PO.no hC hM hB c1 (by rw [r2 s hM, if_neg y1])
theorem XH.put (hd : d = b + 53) (hX : XH s b d) {k : Nat} {w n q h i z : Int32} (hv : HV w n q h i z) : XH (pA (pA (pA (pA (pA (pA s (b + 48) k w) (b + 49) k n) (b + 50) k q) (d + 11) k h) (d + 12) k i) (d + 13) k z) b d := by
  intro x hx
  have a1 : gA (pA (pA (pA (pA (pA (pA s (b + 48) k w) (b + 49) k n) (b + 50) k q) (d + 11) k h) (d + 12) k i) (d + 13) k z) (b + 48) x = if x = k then w else gA s (b + 48) x := by
    repeat rw [gA_pA]
    rw [if_neg (by omega), if_neg (by omega), if_neg (by omega), if_neg (by omega), if_neg (by omega)]
    by_cases y : x = k
    · rw [if_pos ⟨rfl, y⟩, if_pos y]
    · rw [if_neg (fun t => y t.2), if_neg y]
  have a2 : gA (pA (pA (pA (pA (pA (pA s (b + 48) k w) (b + 49) k n) (b + 50) k q) (d + 11) k h) (d + 12) k i) (d + 13) k z) (b + 49) x = if x = k then n else gA s (b + 49) x := by
    repeat rw [gA_pA]
    rw [if_neg (by omega), if_neg (by omega), if_neg (by omega), if_neg (by omega)]
    by_cases y : x = k
    · rw [if_pos ⟨rfl, y⟩, if_pos y]
    · rw [if_neg (fun t => y t.2), if_neg (by omega), if_neg y]
  have a3 : gA (pA (pA (pA (pA (pA (pA s (b + 48) k w) (b + 49) k n) (b + 50) k q) (d + 11) k h) (d + 12) k i) (d + 13) k z) (b + 50) x = if x = k then q else gA s (b + 50) x := by
    repeat rw [gA_pA]
    rw [if_neg (by omega), if_neg (by omega), if_neg (by omega)]
    by_cases y : x = k
    · rw [if_pos ⟨rfl, y⟩, if_pos y]
    · rw [if_neg (fun t => y t.2), if_neg (by omega), if_neg (by omega), if_neg y]
  have a4 : gA (pA (pA (pA (pA (pA (pA s (b + 48) k w) (b + 49) k n) (b + 50) k q) (d + 11) k h) (d + 12) k i) (d + 13) k z) (d + 11) x = if x = k then h else gA s (d + 11) x := by
    repeat rw [gA_pA]
    rw [if_neg (by omega), if_neg (by omega)]
    by_cases y : x = k
    · rw [if_pos ⟨rfl, y⟩, if_pos y]
    · rw [if_neg (fun t => y t.2), if_neg (by omega), if_neg (by omega), if_neg (by omega), if_neg y]
  have a5 : gA (pA (pA (pA (pA (pA (pA s (b + 48) k w) (b + 49) k n) (b + 50) k q) (d + 11) k h) (d + 12) k i) (d + 13) k z) (d + 12) x = if x = k then i else gA s (d + 12) x := by
    repeat rw [gA_pA]
    rw [if_neg (by omega)]
    by_cases y : x = k
    · rw [if_pos ⟨rfl, y⟩, if_pos y]
    · rw [if_neg (fun t => y t.2), if_neg (by omega), if_neg (by omega), if_neg (by omega), if_neg (by omega), if_neg y]
  have a6 : gA (pA (pA (pA (pA (pA (pA s (b + 48) k w) (b + 49) k n) (b + 50) k q) (d + 11) k h) (d + 12) k i) (d + 13) k z) (d + 13) x = if x = k then z else gA s (d + 13) x := by
    repeat rw [gA_pA]
    by_cases y : x = k
    · rw [if_pos ⟨rfl, y⟩, if_pos y]
    · rw [if_neg (fun t => y t.2), if_neg (by omega), if_neg (by omega), if_neg (by omega), if_neg (by omega), if_neg (by omega), if_neg y]
  rw [a1, a2, a3, a4, a5, a6]
  by_cases y : x = k
  · simp only [if_pos y]; exact hv
  · simp only [if_neg y]; exact hX x hx
theorem XH.fr2 {w : Nat → Prop} {u : Nat → Nat → Prop} {t : St} (h : XH s b d) (f : Fr2 w u s t) (hw : ∀ k, wShelf b d k → ¬ w k) : XH t b d := fun k hk => by
  rw [(f.2 (b + 48) (hw _ (by unfold wShelf; omega))).1, (f.2 (b + 49) (hw _ (by unfold wShelf; omega))).1, (f.2 (b + 50) (hw _ (by unfold wShelf; omega))).1, (f.2 (d + 11) (hw _ (by unfold wShelf; omega))).1, (f.2 (d + 12) (hw _ (by unfold wShelf; omega))).1, (f.2 (d + 13) (hw _ (by unfold wShelf; omega))).1]
  exact h k hk
theorem c_shelve {k : Nat} (hk : k < 4) (w n q : Int32) : f_X3_shelve b (nI k) w n q s = some (1, pA (pA (pA s (b + 48) k w) (b + 49) k n) (b + 50) k q) := by
  unfold f_X3_shelve
  rw [gd_n hk (by omega), ix_n (by omega), bn_e, gd_n hk (by omega), bn_e, gd_n hk (by omega), bn_e]
theorem f_shelve {k : Nat} (w n q h i z : Int32) : Fr (wShelf b d) s (pA (pA (pA (pA (pA (pA s (b + 48) k w) (b + 49) k n) (b + 50) k q) (d + 11) k h) (d + 12) k i) (d + 13) k z) :=
  (((((Fr.pA (by unfold wShelf; omega)).tr (Fr.pA (by unfold wShelf; omega))).tr (Fr.pA (by unfold wShelf; omega))).tr (Fr.pA (by unfold wShelf; omega))).tr (Fr.pA (by unfold wShelf; omega))).tr (Fr.pA (by unfold wShelf; omega))
theorem p_shelf (hd : d = b + 53) (hX : XH s b d) (hS : XS s b d) (hC : CM s (b + 1) 0 m) (hM : MM s d 0 m) (hB : BM m) (a1 a2 a3 : Int32) : ∃ x s1 s2, f_X3_shelf b a1 a2 a3 s = some (x, s1) ∧ f_X4_shelf d a1 a2 a3 s1 = some (x, s2) ∧ XH s2 b d ∧ Fr (wShelf b d) s s2 := by
  have h8 := hB.1
  have c1 := f_X3_shelf.eq_1 b a1 a2 a3 s
  rw [show f_X3_isShelf a1 = some (bI (wp a1 4)) from ch_wp (by decide), cp_s, c_isPerson hC h8, cp_s, c_isSheet, cp_s] at c1
  have r1 : ∀ t, MM t d 0 m → f_X4_shelf d a1 a2 a3 t = _ := fun t ht => by unfold f_X4_shelf; rw [r_inN a1 3 (n := 3) (by decide), r_isPerson ht h8, r_isSheet, bn_e]
  simp only [cp_s] at r1
  cases q1 : wp a1 4
  · rw [q1] at c1
    refine ⟨-1, s, s, c1, ?_, hX, Fr.rf⟩
    rw [r1 s hM, q1]
    rw [if_pos bf_eq]
    split
    · rfl
    · split
      · rfl
      · split <;> rfl
  obtain ⟨k, hk, rfl⟩ := wp_of q1 (by omega)
  rw [q1, if_neg bt_ne] at c1
  have gk : ∀ {α : Type} (o : Option α), gd (ib (nI k) 4) o = o := fun o => gd_n hk (by omega)
  have ik : ix (nI k) = k := ix_n (by omega)
  simp only [q1, bI_t, gk, ik] at r1
  have mv : ∀ w n q, MM (pA (pA (pA s (b + 48) k w) (b + 49) k n) (b + 50) k q) d 0 m := fun w n q => hM.fr (w := wShelf b d) (((Fr.pA (by unfold wShelf; omega)).tr (Fr.pA (by unfold wShelf; omega))).tr (Fr.pA (by unfold wShelf; omega))) (by unfold wShelf; omega) (by unfold wShelf; omega)
  by_cases y0 : a2 = 0
  · subst y0
    rw [if_pos rfl] at c1
    cases q2 : wp a3 (m.1 0 0)
    · rw [q2] at c1
      exact ⟨-1, s, s, c1, by rw [r1 s hM, if_pos rfl, q2]; rfl, hX, Fr.rf⟩
    · obtain ⟨p, hp, rfl⟩ := wp_of q2 (by omega)
      rw [q2, if_neg bt_ne, c_shelve hk, cb_s] at c1
      refine ⟨1, _, _, c1, ?_, XH.put hd hX (k := k) (w := 0) (n := nI p) (q := -1) (h := 1) (i := nI p) (z := 0) (Or.inr (Or.inl ⟨p, by omega, rfl, rfl, rfl, rfl⟩)), f_shelve _ _ _ _ _ _⟩
      rw [r1 _ (mv _ _ _), if_pos rfl, q2, if_neg (by decide), if_neg bt_ne, bn_e, if_neg (by decide)]
      dsimp only
      rw [bn_e, if_pos rfl]
      dsimp only
      rw [bn_e, bn_e, if_pos rfl]
      dsimp only
      rw [bn_e, if_pos rfl, bn_e]
  rw [if_neg y0] at c1
  by_cases y1 : a2 = 1
  · subst y1
    rw [if_pos rfl] at c1
    cases q2 : wp a3 4
    · rw [q2] at c1
      exact ⟨-1, s, s, c1, by rw [r1 s hM, if_neg y0, if_pos rfl, q2]; rfl, hX, Fr.rf⟩
    · obtain ⟨n, hn, rfl⟩ := wp_of q2 (by omega)
      obtain ⟨j, z, hj, hz, g1, g2, g3, g4, g5⟩ := hS n hn
      obtain ⟨o1, o2⟩ := sort_0 j (by omega)
      have gn : ∀ {α : Type} (o : Option α), gd (ib (nI n) 4) o = o := fun o => gd_n hn (by omega)
      have i_n : ix (nI n) = n := ix_n (by omega)
      simp only [q2, bI_t, gn, i_n] at r1
      rw [q2, if_neg bt_ne, bn_e] at c1
      simp only [gn, i_n, g1, g3, c_shelve hk, cb_s] at c1
      have zj : (nI j ≤ 0) ↔ j = 0 := by rw [← nI_0]; exact (nI_leI (by omega) (by omega)).trans (by omega)
      by_cases y2 : j = 0
      · rw [if_pos (o1.mpr y2)] at c1
        refine ⟨1, _, _, c1, ?_, XH.put hd hX (k := k) (w := 2) (n := nI z) (q := nI j - 1) (h := 0) (i := 0) (z := 0) (Or.inl ⟨rfl, rfl⟩), f_shelve _ _ _ _ _ _⟩
        have ej : gA (pA (pA (pA s (b + 48) k 2) (b + 49) k (nI z)) (b + 50) k (nI j - 1)) (d + 8) n = nI j := by
          repeat rw [gA_pA]
          rw [if_neg (by omega), if_neg (by omega), if_neg (by omega)]; exact g2
        rw [r1 _ (mv _ _ _), if_neg y0, if_pos trivial, if_neg (by decide), if_neg (by decide), bn_e, if_pos trivial, ej, if_pos (zj.mpr y2)]
        dsimp only
        rw [bn_e, if_neg y0, if_pos rfl]
        dsimp only
        rw [bn_e, bn_e, if_neg y0, if_pos rfl]
        dsimp only
        rw [bn_e, if_pos rfl, bn_e]
      · rw [if_neg (fun t => y2 (o1.mp t))] at c1
        obtain ⟨x, hx⟩ : ∃ x, j = x + 1 := ⟨j - 1, by omega⟩
        have ex : nI j - 1 = nI x := by rw [hx]; exact nI_pred x
        refine ⟨1, _, _, c1, ?_, XH.put hd hX (k := k) (w := 1) (n := nI z) (q := nI j - 1) (h := 2) (i := nI j - 1) (z := nI z) (Or.inr (Or.inr ⟨x, z, by omega, hz, rfl, rfl, ex, rfl, ex, rfl⟩)), f_shelve _ _ _ _ _ _⟩
        have ej : gA (pA (pA (pA s (b + 48) k 1) (b + 49) k (nI z)) (b + 50) k (nI j - 1)) (d + 8) n = nI j := by
          repeat rw [gA_pA]
          rw [if_neg (by omega), if_neg (by omega), if_neg (by omega)]; exact g2
        rw [r1 _ (mv _ _ _), if_neg y0, if_pos trivial, if_neg (by decide), if_neg (by decide), bn_e, if_pos trivial, ej, if_neg (fun t => y2 (zj.mp t))]
        dsimp only
        rw [bn_e, if_neg y0, if_neg (by decide)]
        dsimp only
        rw [bn_e, bn_e, if_neg y0, if_neg (by decide)]
        dsimp only
        have ej2 : gA (pA (pA (pA (pA s (b + 48) k 1) (b + 49) k (nI z)) (b + 50) k (nI j - 1)) (d + 11) k 2) (d + 8) n = nI j := by
          rw [gA_pA, if_neg (by omega)]; exact ej
        rw [ej2, bn_e, if_neg (by decide), bn_e]
        have ez : gA (pA (pA (pA (pA (pA s (b + 48) k 1) (b + 49) k (nI z)) (b + 50) k (nI j - 1)) (d + 11) k 2) (d + 12) k (nI j - 1)) (d + 9) n = nI z := by
          repeat rw [gA_pA]
          rw [if_neg (by omega), if_neg (by omega), if_neg (by omega), if_neg (by omega), if_neg (by omega)]; exact g4
        rw [ez]
  rw [if_neg y1] at c1
  by_cases y2 : a2 = 2
  · subst y2
    rw [if_pos rfl, c_shelve hk, cb_s] at c1
    refine ⟨1, _, _, c1, ?_, XH.put hd hX (k := k) (w := 2) (n := 0) (q := -1) (h := 0) (i := 0) (z := 0) (Or.inl ⟨rfl, rfl⟩), f_shelve _ _ _ _ _ _⟩
    rw [r1 _ (mv _ _ _), if_neg y0, if_neg y1, if_pos rfl, if_neg (by decide), if_neg (by decide), bn_e, if_neg y1]
    dsimp only
    rw [bn_e, if_neg y0, if_pos rfl]
    dsimp only
    rw [bn_e, bn_e, if_neg y0, if_pos rfl]
    dsimp only
    rw [bn_e, if_pos rfl, bn_e]
  · rw [if_neg y2] at c1
    exact ⟨-1, s, s, c1, by rw [r1 s hM, if_neg y0, if_neg y1, if_neg y2]; rfl, hX, Fr.rf⟩
/-! taken -/
def undB (K a : Nat) : Bool := decide (a = 0 ∨ K = a ∨ (if K = 3 then 1 else if K = 4 then 2 else 0) = a)
theorem c_under : ∀ K, K < 6 → ∀ a, a < 6 → L_X3_isUnder_4 (nI a) (fun (e3 : Int32) => (if e3 = nI a then some (1 : Int32) else some (0 : Int32))) FU (nI K) (0 : Int32) = some (bI (undB K a)) := by decide +kernel
theorem r_under : ∀ K, K < 6 → ∀ a, a < 6 → ∀ n : Fin 8, (if nI a = 0 then some (nI n.val) else (if nI K = nI a then some (nI n.val) else cp (f_X4_above (nI K)) fun x20 => (if x20 = nI a then some (nI n.val) else some (-13 : Int32)))) = if undB K a = true then some (nI n.val) else some (-13) := by decide +kernel
theorem p_taken (hX : XH s b d) (hC : CM s (b + 1) 0 m) (hM : MM s d 0 m) (hB : BM m) (a1 a2 : Int32) : PP s (f_X3_taken b a1 a2) (f_X4_taken d a1 a2) := by
  have h8 := hB.1
  unfold PP f_X3_taken f_X4_taken
  rw [show f_X3_isShelf a1 = some (bI (wp a1 4)) from ch_wp (by decide), cp_s, r_inN a1 3 (n := 3) (by decide), cp_s, show (3 + 1 : Nat) = 4 from rfl]
  cases q1 : wp a1 4
  · exact ⟨-1, rfl, rfl⟩
  obtain ⟨k, hk, rfl⟩ := wp_of q1 (by omega)
  have gk : ∀ {α : Type} (o : Option α), gd (ib (nI k) 4) o = o := fun o => gd_n hk (by omega)
  have ik : ix (nI k) = k := ix_n (by omega)
  have eR : f_X3_holdsRow b (nI k) s = if gA s (b + 48) k = 1 then some 1 else some 0 := by unfold f_X3_holdsRow; rw [gk, ik]
  have eP : f_X3_holdsPerson b (nI k) s = if gA s (b + 48) k = 0 then cp (f_X3_isPerson b (gA s (b + 49) k) s) fun x3 => (if x3 = 0 then some (0 : Int32) else some (1 : Int32)) else some 0 := by unfold f_X3_holdsPerson; rw [gk, ik, gk]
  have eN : f_X4_holdsNothing d (nI k) s = if gA s (d + 11) k = 0 then some 1 else if gA s (d + 11) k = 1 then cp (f_X4_isPerson d (gA s (d + 12) k) s) fun x4 => (if x4 = 0 then some (1 : Int32) else some (0 : Int32)) else some 0 := by unfold f_X4_holdsNothing; rw [gk, ik, gk, gk]
  rw [if_neg bt_ne, if_neg bt_ne, c_isKind, cp_s, r_inN a2 5 (n := 5) (by decide), cp_s, show (5 + 1 : Nat) = 6 from rfl, r_inLo a2 10 13, cp_s, show (10 : Int64).toInt = 10 from rfl, show (13 : Int64).toInt = 13 from rfl]
  simp only [gk, ik, eR, eP, eN]
  have l1 : (a2 < (10 : Int32)) ↔ a2.toInt < 10 := by rw [Int32.lt_iff_toInt_lt]; rfl
  have l2 : (a2 < (14 : Int32)) ↔ a2.toInt < 14 := by rw [Int32.lt_iff_toInt_lt]; rfl
  have l3 : ((10 : Int32) ≤ a2) ↔ 10 ≤ a2.toInt := by rw [Int32.le_iff_toInt_le]; rfl
  have hv := hX k hk
  cases q2 : wp a2 6
  · rw [if_pos bf_eq, if_pos bf_eq]
    by_cases y : (10 : Int) ≤ a2.toInt ∧ a2.toInt ≤ 13
    · rw [if_neg (fun t => by have := l1.mp t; omega), if_pos (l2.mpr (by omega)), decide_eq_true y, if_neg bt_ne]
      rcases hv with ⟨w1, w2⟩ | ⟨p, hp, w1, w2, w3, w4⟩ | ⟨j, z, hj, hz, w1, w2, w3, w4, w5, w6⟩
      · rw [w1, w2]; exact ⟨-11, rfl, rfl⟩
      · rw [w1, w2, w3, w4, c_isPerson hC h8, cp_s, r_isPerson hM h8, cp_s, show f_X4_get d (nI p) (0 : Int32) s = some (gA s (d + 1) (71 + 4 * p + 0)) from r_get hp 0 (by omega)]
        cases wp (nI p) (m.1 0 0)
        · exact ⟨-11, rfl, rfl⟩
        · refine ⟨-13, ?_, ?_⟩
          · rw [if_neg (by decide), cp_s, if_pos rfl, if_pos rfl, if_neg bt_ne, cp_s, if_neg (by decide), bn_e, cp_s, if_pos bf_eq]
          · rw [if_neg (by decide), if_pos rfl, if_neg bt_ne, cp_s, if_pos rfl, if_neg (by decide), cp_s, if_pos (l3.mpr y.1)]
      · rw [w1, w2, w3, w4, w5, w6]
        rw [if_pos (rfl : (1 : Int32) = 1), cp_s, if_neg (show ¬ (1 : Int32) = 0 by decide), if_neg (show ¬ (2 : Int32) = 0 by decide), if_neg (show ¬ (2 : Int32) = 1 by decide), cp_s, if_pos (rfl : (0 : Int32) = 0), if_pos (rfl : (2 : Int32) = 2)]
        split
        · exact ⟨_, rfl, rfl⟩
        · exact ⟨_, rfl, rfl⟩
    · refine ⟨-1, ?_, ?_⟩
      · by_cases w : a2.toInt < 10
        · rw [if_pos (l1.mpr w)]
        · rw [if_neg (fun t => w (l1.mp t)), if_neg (fun t => by have := l2.mp t; omega)]
      · rw [decide_eq_false y]; rfl
  · obtain ⟨a, ha, rfl⟩ := wp_of q2 (by omega)
    rw [if_neg bt_ne, if_neg bt_ne]
    rcases hv with ⟨w1, w2⟩ | ⟨p, hp, w1, w2, w3, w4⟩ | ⟨j, z, hj, hz, w1, w2, w3, w4, w5, w6⟩
    · rw [w1, w2]; exact ⟨-11, rfl, rfl⟩
    · rw [w1, w2, w3, w4, c_isPerson hC h8, cp_s, r_isPerson hM h8, cp_s]
      cases q3 : wp (nI p) (m.1 0 0)
      · exact ⟨-11, rfl, rfl⟩
      · have hp' : p < m.1 0 0 := by
          obtain ⟨i, hi, e⟩ := wp_of q3 (by omega)
          rw [(nI_eq (by omega) (by omega)).mp e]; exact hi
        have b5 := (hB.2.2.2.2.2 p hp').1
        obtain ⟨kc, _⟩ := hC.2.2.2.2.2.2 p hp'
        refine ⟨if undB (m.1 5 p) a = true then nI p else -13, ?_, ?_⟩
        · rw [if_neg (by decide), cp_s, if_pos rfl, if_pos rfl, if_neg bt_ne, cp_s, if_neg (by decide), bn_e, cp_s, if_neg bt_ne, gd_n hp (by omega), ix_n (n := p) (by omega), kc]
          unfold f_X3_isUnder
          rw [c_under (m.1 5 p) (by omega) a ha, cp_s]
          cases undB (m.1 5 p) a
          · rfl
          · rfl
        · rw [if_neg (by decide), if_pos rfl, if_neg bt_ne, cp_s, if_pos rfl, if_neg (by decide), r_g0 hM h8 hp', cp_s, if_neg (fun t => by have := l3.mp t; rw [nI_toInt (by omega)] at this; omega)]
          rw [r_under (m.1 5 p) (by omega) a ha ⟨p, hp⟩]
          split <;> rfl
    · rw [w1, w2, w3, w4, w5, w6]
      rw [if_pos (rfl : (1 : Int32) = 1), cp_s, if_neg (show ¬ (1 : Int32) = 0 by decide), if_neg (show ¬ (2 : Int32) = 0 by decide), if_neg (show ¬ (2 : Int32) = 1 by decide), cp_s, if_pos (rfl : (0 : Int32) = 0), if_pos (rfl : (2 : Int32) = 2)]
      split
      · exact ⟨_, rfl, rfl⟩
      · exact ⟨_, rfl, rfl⟩
end MINDS
