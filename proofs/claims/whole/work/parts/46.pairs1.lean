/-! pairs: the two sides over the same common value -/
def wp (a : Int32) (n : Nat) : Bool := decide (0 ≤ a.toInt ∧ a.toInt < n)
theorem wp_of {a : Int32} {n : Nat} (h : wp a n = true) (hn : n ≤ 2 ^ 31) : ∃ j, j < n ∧ a = nI j := by
  obtain ⟨h1, h2⟩ := of_decide_eq_true h
  refine ⟨a.toInt.toNat, by omega, ?_⟩
  apply Int32.toInt_inj.mp
  rw [nI_toInt (by omega)]; omega
theorem wp_n {j n : Nat} (h : j < n) (hn : n ≤ 2 ^ 31) : wp (nI j) n = true := by
  unfold wp; rw [nI_toInt (by omega)]; exact decide_eq_true ⟨by omega, by omega⟩
theorem ch_wp {a M : Int32} {n : Nat} (hM : M.toInt = n) : (if a < 0 then some (0 : Int32) else (if M ≤ a then some (0 : Int32) else some (1 : Int32))) = some (bI (wp a n)) := by
  unfold wp
  have e0 : (a < 0) ↔ a.toInt < 0 := by rw [Int32.lt_iff_toInt_lt]; rfl
  have e1 : (M ≤ a) ↔ (n : Int) ≤ a.toInt := by rw [Int32.le_iff_toInt_le, hM]
  simp only [e0, e1]
  by_cases h1 : a.toInt < 0
  · have : ¬ 0 ≤ a.toInt := by omega
    simp [h1, this, bI]
  · have h2 : 0 ≤ a.toInt := by omega
    by_cases h3 : (n : Int) ≤ a.toInt
    · have : ¬ a.toInt < n := by omega
      simp [h1, h2, h3, this, bI]
    · have : a.toInt < n := by omega
      simp [h1, h2, h3, this, bI]
theorem c_isLaw (a : Int32) : f_X3_isLaw a = some (bI (wp a 4)) := ch_wp (by decide)
theorem c_isKind (a : Int32) : f_X3_isKind a = some (bI (wp a 6)) := ch_wp (by decide)
theorem c_isCell (a : Int32) : f_X3_isCell a = some (bI (wp a 32)) := ch_wp (by decide)
theorem c_isWithin (a M : Int32) {n : Nat} (hM : M.toInt = n) : f_X3_isWithin a M = some (bI (wp a (n + 1))) := by
  unfold f_X3_isWithin wp
  have e0 : (a < 0) ↔ a.toInt < 0 := by rw [Int32.lt_iff_toInt_lt]; rfl
  have e1 : (M < a) ↔ (n : Int) < a.toInt := by rw [Int32.lt_iff_toInt_lt, hM]
  simp only [e0, e1]
  by_cases h1 : a.toInt < 0
  · have : ¬ 0 ≤ a.toInt := by omega
    simp [h1, this, bI]
  · have h2 : 0 ≤ a.toInt := by omega
    by_cases h3 : (n : Int) < a.toInt
    · have : ¬ a.toInt < n + 1 := by omega
      simp [h1, h2, h3, this, bI]
    · have : a.toInt < n + 1 := by omega
      simp [h1, h2, h3, this, bI]
theorem r_inN (a : Int32) (M : Int64) {n : Nat} (hM : M.toInt = n) : f_X4_in (a).toInt64 (0 : Int64) M = some (bI (wp a (n + 1))) := by
  rw [r_in]
  unfold wp
  have e : ((0 : Int64) ≤ a.toInt64 ∧ a.toInt64 ≤ M) ↔ (0 ≤ a.toInt ∧ a.toInt < ((n + 1 : Nat) : Int)) := by
    rw [Int64.le_iff_toInt_le, Int64.le_iff_toInt_le, hM, Int32.toInt_toInt64, show (0 : Int64).toInt = 0 from rfl]
    constructor <;> rintro ⟨h1, h2⟩ <;> exact ⟨h1, by omega⟩
  exact congrArg (fun b => some (bI b)) (decide_eq_decide.mpr e)
theorem zb_cp {α : Type} (w : Bool) (f : Int32 → Option α) : cp (gd (zb (bI w)) (some (bI w))) f = f (bI w) := by rw [zb_bI]; rfl
theorem r_isCell (a : Int32) : f_X4_isCell a = some (bI (wp a 32)) := by
  unfold f_X4_isCell
  rw [r_inN a 31 (n := 31) (by decide), cp_s, zb_bI, gd_t]
theorem c_isPerson {s : St} {b : Nat} {m : MS} {mu : Nat} (h : CM s (b + 1) mu m) (h8 : m.1 0 0 ≤ 8) (a : Int32) : f_X3_isPerson b a s = some (bI (wp a (m.1 0 0))) := by
  unfold f_X3_isPerson
  rw [h.2.2.1]
  exact ch_wp (nI_toInt (by omega))
theorem r_isPerson {s : St} {d : Nat} {m : MS} {mu : Nat} (h : MM s d mu m) (h8 : m.1 0 0 ≤ 8) (a : Int32) : f_X4_isPerson d a s = some (bI (wp a (m.1 0 0))) := by
  unfold f_X4_isPerson
  rw [h.1.2.2.1, r_in]
  have e : (nI (m.1 0 0) - (1 : Int32)).toInt = (m.1 0 0 : Int) - 1 := pk_sub_toInt (b := 1) (by omega) (by omega)
  have e2 : (decide ((0 : Int64) ≤ a.toInt64 ∧ a.toInt64 ≤ (nI (m.1 0 0) - (1 : Int32)).toInt64)) = wp a (m.1 0 0) := by
    unfold wp
    apply decide_eq_decide.mpr
    rw [Int64.le_iff_toInt_le, Int64.le_iff_toInt_le, Int32.toInt_toInt64, Int32.toInt_toInt64, e, show (0 : Int64).toInt = 0 from rfl]
    constructor <;> rintro ⟨h1, h2⟩ <;> exact ⟨h1, by omega⟩
  rw [e2, cp_s, zb_bI, gd_t]
/-- what the class touches; what the reference touches -/
def wC (b : Nat) : Nat → Prop := fun k => b + 1 ≤ k ∧ k ≤ b + 18
def wQ (d : Nat) : Nat → Prop := fun k => k = d + 1 ∨ k = d + 3 ∨ k = d + 4
def wO (b d : Nat) : Nat → Prop := fun k => wC b k ∨ wQ d k
/-- both sides answer x, and hold m' then -/
def PO {κ : Type} (b d : Nat) (s : St) (f g : St → Option (κ × St)) : Prop := ∃ x s1 s2 m', f s = some (x, s1) ∧ g s1 = some (x, s2) ∧ CM s2 (b + 1) 0 m' ∧ MM s2 d 0 m' ∧ BM m' ∧ Fr (wO b d) s s2
def PP {κ : Type} (s : St) (f g : St → Option κ) : Prop := ∃ x, f s = some x ∧ g s = some x
section PAIRS
variable {s : St} {b d : Nat} {m : MS}
theorem PO.mk {κ : Type} {f g : St → Option (κ × St)} {x : κ} {s1 : St} {m' : MS} (hd : d = b + 53) (hM : MM s d 0 m) (hB : BM m') (h1 : f s = some (x, s1)) (hF : Fr (wC b) s s1) (hC : CM s1 (b + 1) 0 m') (h2 : MM s1 d 0 m → ∃ s2, g s1 = some (x, s2) ∧ Fr (wQ d) s1 s2 ∧ MM s2 d 0 m') : PO b d s f g := by
  obtain ⟨s2, e, f2, M2⟩ := h2 (hM.fr hF (by unfold wC; omega) (by unfold wC; omega))
  exact ⟨x, s1, s2, m', h1, e, hC.fr f2 (fun k h1 h2 => by unfold wQ; omega), M2, hB, (hF.wk (fun k q => Or.inl q)).tr (f2.wk (fun k q => Or.inr q))⟩
/-- nothing is done -/
theorem PO.no {κ : Type} {f g : St → Option (κ × St)} {x : κ} (hC : CM s (b + 1) 0 m) (hM : MM s d 0 m) (hB : BM m) (h1 : f s = some (x, s)) (h2 : g s = some (x, s)) : PO b d s f g := ⟨x, s, s, m, h1, h2, hC, hM, hB, Fr.rf⟩
def upN (f : Nat → Nat) (n v : Nat) : Nat → Nat := fun x => if x = n then v else f x
theorem CM.pLaw {mu : Nat} (h : CM s b mu m) {i v : Nat} : CM (pA s (b + 1) i (nI v)) b mu (setR m 1 (upN (m.1 1) i v)) := by
  obtain ⟨h1, h2, h3, h4, h5, h6, h7⟩ := h
  refine ⟨h1, h2, h3, h4, fun x hx => ?_, fun x hx => ⟨?_, ?_, ?_⟩, fun x hx => ⟨?_, ?_, ?_, ?_⟩⟩
  · rw [gA_pA]
    show _ = nI (if x = i then v else m.1 1 x)
    by_cases q : x = i
    · rw [if_pos ⟨rfl, q⟩, if_pos q]
    · rw [if_neg (fun z => q z.2), if_neg q]; exact h5 x hx
  · rw [gA_pA, if_neg (by omega)]; exact (h6 x hx).1
  · rw [gA_pA, if_neg (by omega)]; exact (h6 x hx).2.1
  · rw [gA_pA, if_neg (by omega)]; exact (h6 x hx).2.2
  · rw [gA_pA, if_neg (by omega)]; exact (h7 x hx).1
  · rw [gA_pA, if_neg (by omega)]; exact (h7 x hx).2.1
  · rw [gA_pA, if_neg (by omega)]; exact (h7 x hx).2.2.1
  · rw [gA_pA, if_neg (by omega)]; exact (h7 x hx).2.2.2
theorem MM.pLaw {mu : Nat} (h : MM s b mu m) {i v : Nat} (hi : i < 4) : MM (pA s (b + 1) i (nI v)) b mu (setR m 1 (upN (m.1 1) i v)) := by
  obtain ⟨⟨h1, h2, h3, h4, h5, h6⟩, h7⟩ := h
  refine ⟨⟨?_, ?_, ?_, fun x hx => ?_, fun x hx => ⟨?_, ?_⟩, fun x hx => ?_⟩, h7⟩
  · rw [gA_pA, if_neg (by omega)]; exact h1
  · rw [gA_pA, if_neg (by omega)]; exact h2
  · rw [gA_pA, if_neg (by omega)]; exact h3
  · rw [gA_pA]
    show _ = nI (if x = i then v else m.1 1 x)
    by_cases q : x = i
    · rw [if_pos ⟨rfl, q⟩, if_pos q]
    · rw [if_neg (fun z => q z.2), if_neg q]; exact h4 x hx
  · rw [gA_pA, if_neg (by omega)]; exact (h5 x hx).1
  · rw [gA_pA, if_neg (by omega)]; exact (h5 x hx).2
  · obtain ⟨x1, x2, x3, x4⟩ := h6 x hx
    refine ⟨?_, ?_, ?_, ?_⟩ <;> rw [gA_pA, if_neg (by omega)] <;> assumption
theorem BM.setL (hb : BM m) {i v : Nat} (h0 : i < 2 → v ≤ 9) (h2 : i = 2 → v ≤ 50) (h3 : i = 3 → v ≤ 99) : BM (setR m 1 (upN (m.1 1) i v)) := by
  refine ⟨hb.1, fun x hx => ?_, ?_, ?_, hb.2.2.2.2.1, hb.2.2.2.2.2⟩
  · show (if x = i then v else m.1 1 x) ≤ 9
    split
    · exact h0 (by omega)
    · exact hb.2.1 x hx
  · show (if 2 = i then v else m.1 1 2) ≤ 50
    split
    · exact h2 (by omega)
    · exact hb.2.2.1
  · show (if 3 = i then v else m.1 1 3) ≤ 99
    split
    · exact h3 (by omega)
    · exact hb.2.2.2.1
def lawMax (i : Nat) : Nat := if i < 2 then 9 else if i = 2 then 50 else 99
theorem stV1 : ∀ i, i < 4 → (stV 1 i).toInt = (lawMax i : Int) := by decide +kernel
theorem p_set (hd : d = b + 53) (hC : CM s (b + 1) 0 m) (hM : MM s d 0 m) (hB : BM m) (a1 a2 : Int32) : PO b d s (f_X3_set b a1 a2) (f_X4_set d a1 a2) := by
  have r1 : ∀ t, f_X4_set d a1 a2 t = _ := fun t => by unfold f_X4_set; rw [r_inN a1 3 (n := 3) (by decide), cp_s]
  cases h : wp a1 4
  · refine PO.no (x := -1) hC hM hB ?_ ?_
    · unfold f_X3_set; rw [c_isLaw, cp_s, h]; rfl
    · rw [r1, h]; rfl
  · obtain ⟨i, hi, rfl⟩ := wp_of h (by decide)
    have r2 : ∀ t, f_X4_set d (nI i) a2 t = (if bI (wp a2 (lawMax i + 1)) = 0 then some ((-1 : Int32), t) else gd (ib (nI i) 103) (bn ((gA t (d + 1) (ix (nI i)))) fun x6 => gd (ib (nI i) 103) (bn (pA t (d + 1) (ix (nI i)) a2) fun s8 => some (x6, s8)))) := by
      intro t
      rw [r1, h, if_neg (by decide), bn_e]
      rcases (by omega : i = 0 ∨ i = 1 ∨ i = 2 ∨ i = 3) with rfl | rfl | rfl | rfl
      · rw [if_neg (by decide)]
        dsimp only
        rw [r_inN a2 9 (n := 9) (by decide), cp_s]; rfl
      · rw [if_neg (by decide)]
        dsimp only
        rw [r_inN a2 9 (n := 9) (by decide), cp_s]; rfl
      · rw [if_pos (by decide), if_pos (by decide)]
        dsimp only
        rw [r_inN a2 50 (n := 50) (by decide), cp_s]; rfl
      · rw [if_pos (by decide), if_neg (by decide)]
        dsimp only
        rw [r_inN a2 99 (n := 99) (by decide), cp_s]; rfl
    have c2 : f_X3_set b (nI i) a2 s = (if bI (wp a2 (lawMax i + 1)) = 0 then some ((-1 : Int32), s) else some (gA s (b + 1 + 1) i, pA s (b + 1 + 1) i a2)) := by
      unfold f_X3_set
      rw [c_isLaw, cp_s, h, if_neg (by decide), gd_n hi (by omega), ix_n (by omega), c_isWithin _ _ (stV1 i hi), cp_s, gd_n hi (by omega), bn_e, gd_n hi (by omega), bn_e]
    cases h2 : wp a2 (lawMax i + 1)
    · refine PO.no (x := -1) hC hM hB ?_ ?_
      · rw [c2, h2]; rfl
      · rw [r2, h2]; rfl
    · have hl : lawMax i ≤ 99 := by unfold lawMax; (repeat' split) <;> omega
      obtain ⟨v, hv, rfl⟩ := wp_of h2 (by omega)
      rw [h2, if_neg (by decide), hC.2.2.2.2.1 i hi] at c2
      refine PO.mk hd hM (m' := setR m 1 (upN (m.1 1) i v)) (hB.setL ?_ ?_ ?_) c2 (Fr.pA (by unfold wC; omega)) hC.pLaw (fun hM1 => ?_)
      · intro q; unfold lawMax at hv; rw [if_pos q] at hv; omega
      · intro q; unfold lawMax at hv; rw [if_neg (by omega), if_pos q] at hv; omega
      · intro q; unfold lawMax at hv; rw [if_neg (by omega), if_neg (by omega)] at hv; omega
      · rw [r2, h2, if_neg (by decide), gd_n (show i < 103 by omega) (by omega), ix_n (by omega), bn_e, gd_n (show i < 103 by omega) (by omega), bn_e, hM1.1.2.2.2.1 i hi]
        exact ⟨_, rfl, Fr.pA (Or.inl rfl), hM1.pLaw hi⟩
theorem p_lawOf (hC : CM s (b + 1) 0 m) (hM : MM s d 0 m) (a1 : Int32) : PP s (f_X3_lawOf b a1) (f_X4_lawOf d a1) := by
  unfold PP f_X3_lawOf f_X4_lawOf
  rw [c_isLaw, r_inN a1 3 (n := 3) (by decide), cp_s, cp_s]
  cases h : wp a1 4
  · exact ⟨-1, rfl, rfl⟩
  · obtain ⟨i, hi, rfl⟩ := wp_of h (by decide)
    rw [if_neg (by decide), if_neg (by decide), gd_n hi (by omega), gd_n (show i < 103 by omega) (by omega), ix_n (by omega), hC.2.2.2.2.1 i hi, hM.1.2.2.2.1 i hi]
    exact ⟨_, rfl, rfl⟩
end PAIRS
