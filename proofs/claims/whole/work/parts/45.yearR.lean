/-! the lowest beside, in the reference; its year -/
theorem kIf {α : Type} {c : Prop} [Decidable c] (K : Int32 → α) : (if c then K 0 else K 1) = K (bI (!decide c)) := by by_cases h : c <;> simp [h, bI]
theorem eight_n : ∀ c, c < 32 → ((8 : Int32) ≤ nI c ↔ 8 ≤ c) := by decide +kernel
theorem lt8_n : ∀ c, c < 32 → (nI c < (8 : Int32) ↔ ¬ 8 ≤ c) := by decide +kernel
theorem col0_n : ∀ c, c < 32 → ((nI c - nI c / (8 : Int32) * (8 : Int32)) ≤ 0 ↔ ¬ 0 < c % 8) := by decide +kernel
theorem col7_n : ∀ c, c < 32 → ((7 : Int32) ≤ (nI c - nI c / (8 : Int32) * (8 : Int32)) ↔ ¬ c % 8 < 7) := by decide +kernel
theorem low24_n : ∀ c, c < 32 → ((24 : Int32) ≤ nI c ↔ ¬ c < 24) := by decide +kernel
section YEARR
variable {s : St} {b mu : Nat} {m : MS}
theorem r_lowAt {rec : Int32 → Int32 → Int32 → Option Int32} {K : Int32 → Option Int32} {a : Nat} (ha : a < 32) (c3 c4 : Int32) :
    (B_X4_lowestOf_16 rec b (nI a) s K c3 c4 0 = (if bI (decide (8 ≤ a)) = 0 then rec c3 c4 1 else gd (ib ((7 : Int32) + (nI a - 8)) 103) (if c4 ≤ (gA s (b + 1) (ix ((7 : Int32) + (nI a - 8)))) then rec c3 c4 1 else gd (ib ((7 : Int32) + (nI a - 8)) 103) (bn ((gA s (b + 1) (ix ((7 : Int32) + (nI a - 8))))) fun x16 => rec (nI a - 8) x16 1)))) ∧
    (B_X4_lowestOf_16 rec b (nI a) s K c3 c4 1 = (if bI (decide (0 < a % 8)) = 0 then rec c3 c4 2 else gd (ib ((7 : Int32) + (nI a - 1)) 103) (if c4 ≤ (gA s (b + 1) (ix ((7 : Int32) + (nI a - 1)))) then rec c3 c4 2 else gd (ib ((7 : Int32) + (nI a - 1)) 103) (bn ((gA s (b + 1) (ix ((7 : Int32) + (nI a - 1))))) fun x16 => rec (nI a - 1) x16 2)))) ∧
    (B_X4_lowestOf_16 rec b (nI a) s K c3 c4 2 = (if bI (decide (a % 8 < 7)) = 0 then rec c3 c4 3 else gd (ib ((7 : Int32) + (nI a + 1)) 103) (if c4 ≤ (gA s (b + 1) (ix ((7 : Int32) + (nI a + 1)))) then rec c3 c4 3 else gd (ib ((7 : Int32) + (nI a + 1)) 103) (bn ((gA s (b + 1) (ix ((7 : Int32) + (nI a + 1))))) fun x16 => rec (nI a + 1) x16 3)))) ∧
    (B_X4_lowestOf_16 rec b (nI a) s K c3 c4 3 = (if bI (decide (a < 24)) = 0 then rec c3 c4 4 else gd (ib ((7 : Int32) + (nI a + 8)) 103) (if c4 ≤ (gA s (b + 1) (ix ((7 : Int32) + (nI a + 8)))) then rec c3 c4 4 else gd (ib ((7 : Int32) + (nI a + 8)) 103) (bn ((gA s (b + 1) (ix ((7 : Int32) + (nI a + 8))))) fun x16 => rec (nI a + 8) x16 4)))) ∧
    B_X4_lowestOf_16 rec b (nI a) s K c3 c4 4 = K c3 := by
  refine ⟨?_, ?_, ?_, ?_, ?_⟩
  · unfold B_X4_lowestOf_16
    rw [if_neg (by decide)]
    simp only [lt8_n a ha, bn_e]
    by_cases q : 8 ≤ a <;> simp (decide := true) [q, bI]
  · unfold B_X4_lowestOf_16
    rw [if_neg (by decide)]
    simp only [col0_n a ha, bn_e]
    by_cases q : 0 < a % 8 <;> simp (decide := true) [q, bI]
  · unfold B_X4_lowestOf_16
    rw [if_neg (by decide)]
    simp only [col7_n a ha, bn_e]
    by_cases q : a % 8 < 7 <;> simp (decide := true) [q, bI]
  · unfold B_X4_lowestOf_16
    rw [if_neg (by decide)]
    simp only [low24_n a ha, bn_e]
    by_cases q : a < 24 <;> simp (decide := true) [q, bI]
  · unfold B_X4_lowestOf_16
    rw [if_pos (by decide)]
def wI (c x : Nat) : Int32 := if x = c then -3 else nI x
theorem lowStep_h {h : Nat → Nat} {x o c : Nat} {ok : Bool} (hx : h x ≤ h c) : h (lowStep h x ok o) ≤ h c := by
  unfold lowStep; split
  · rename_i q; omega
  · exact hx
theorem wI_step {h : Nat → Nat} {x o c : Nat} {ok : Bool} (hx : h x ≤ h c) : (if ok = true ∧ h o < h x then nI o else wI c x) = wI c (lowStep h x ok o) := by
  unfold lowStep
  by_cases q : ok = true ∧ h o < h x
  · rw [if_pos q, if_pos q]; unfold wI; rw [if_neg (fun z => by rw [z] at q; omega)]
  · rw [if_neg q, if_neg q]
theorem r_lowestOf (h : MM s b mu m) (hb : BM m) {c : Nat} (hc : c < 32) : f_X4_lowestOf b (nI c) s = some (lowI (m.1 2) c (-3)) := by
  have g : ∀ x, x < 32 → gA s (b + 1) (7 + x) = nI (m.1 2 x) ∧ m.1 2 x ≤ 9 := fun x hx => ⟨(h.1.2.2.2.2.1 x hx).1, (hb.2.2.2.2.1 x hx).1⟩
  have hc8 : c % 8 < 8 := Nat.mod_lt _ (by decide)
  unfold f_X4_lowestOf
  rw [show (7 : Int32) + nI c = nI (7 + c) from nI_add 7 c, gd_n (show 7 + c < 103 by omega) (by omega), ix_n (by omega), (g c hc).1, bn_e]
  show B_X4_lowestOf_16 (L_X4_lowestOf_16 b (nI c) s (fun e6 => some e6) 999) b (nI c) s (fun e6 => some e6) (-3) (nI (m.1 2 c)) 0 = _
  have ok1 : decide (8 ≤ c) = true → c - 8 < 32 ∧ m.1 2 (c - 8) ≤ 9 ∧ nI c - 8 = nI (c - 8) ∧ gA s (b + 1) (7 + (c - 8)) = nI (m.1 2 (c - 8)) := by
    intro q
    have := of_decide_eq_true q
    exact ⟨by omega, (g _ (by omega)).2, pk_sub (a := c) (b := 8) (by omega), (g _ (by omega)).1⟩
  have ok2 : decide (0 < c % 8) = true → c - 1 < 32 ∧ m.1 2 (c - 1) ≤ 9 ∧ nI c - 1 = nI (c - 1) ∧ gA s (b + 1) (7 + (c - 1)) = nI (m.1 2 (c - 1)) := by
    intro q
    have := of_decide_eq_true q
    exact ⟨by omega, (g _ (by omega)).2, pk_sub (a := c) (b := 1) (by omega), (g _ (by omega)).1⟩
  have ok3 : decide (c % 8 < 7) = true → c + 1 < 32 ∧ m.1 2 (c + 1) ≤ 9 ∧ nI c + 1 = nI (c + 1) ∧ gA s (b + 1) (7 + (c + 1)) = nI (m.1 2 (c + 1)) := by
    intro q
    have := of_decide_eq_true q
    exact ⟨by omega, (g _ (by omega)).2, nI_1 c, (g _ (by omega)).1⟩
  have ok4 : decide (c < 24) = true → c + 8 < 32 ∧ m.1 2 (c + 8) ≤ 9 ∧ nI c + 8 = nI (c + 8) ∧ gA s (b + 1) (7 + (c + 8)) = nI (m.1 2 (c + 8)) := by
    intro q
    have := of_decide_eq_true q
    exact ⟨by omega, (g _ (by omega)).2, nI_add c 8, (g _ (by omega)).1⟩
  have w0 : (-3 : Int32) = wI c c := by unfold wI; rw [if_pos rfl]
  rw [(r_lowAt hc _ _).1, w0, r_lowStep (K := fun w x => L_X4_lowestOf_16 b (nI c) s (fun e6 => some e6) 999 w x 1) (g c hc).2 ok1, wI_step (Nat.le_refl _)]
  have k1 : m.1 2 (lowStep (m.1 2) c (decide (8 ≤ c)) (c - 8)) ≤ m.1 2 c := lowStep_h (Nat.le_refl _)
  have a1 : lowStep (m.1 2) c (decide (8 ≤ c)) (c - 8) < 32 := lowStep_lt hc (fun _ => by omega)
  unfold lowI lowS
  generalize lowStep (m.1 2) c (decide (8 ≤ c)) (c - 8) = x1 at k1 a1
  show B_X4_lowestOf_16 (L_X4_lowestOf_16 b (nI c) s (fun e6 => some e6) 998) b (nI c) s (fun e6 => some e6) (wI c x1) (nI (m.1 2 x1)) 1 = _
  rw [(r_lowAt hc _ _).2.1, r_lowStep (K := fun w x => L_X4_lowestOf_16 b (nI c) s (fun e6 => some e6) 998 w x 2) (g x1 a1).2 ok2, wI_step k1]
  have k2 : m.1 2 (lowStep (m.1 2) x1 (decide (0 < c % 8)) (c - 1)) ≤ m.1 2 c := lowStep_h k1
  have a2 : lowStep (m.1 2) x1 (decide (0 < c % 8)) (c - 1) < 32 := lowStep_lt a1 (fun _ => by omega)
  generalize lowStep (m.1 2) x1 (decide (0 < c % 8)) (c - 1) = x2 at k2 a2
  show B_X4_lowestOf_16 (L_X4_lowestOf_16 b (nI c) s (fun e6 => some e6) 997) b (nI c) s (fun e6 => some e6) (wI c x2) (nI (m.1 2 x2)) 2 = _
  rw [(r_lowAt hc _ _).2.2.1, r_lowStep (K := fun w x => L_X4_lowestOf_16 b (nI c) s (fun e6 => some e6) 997 w x 3) (g x2 a2).2 ok3, wI_step k2]
  have k3 : m.1 2 (lowStep (m.1 2) x2 (decide (c % 8 < 7)) (c + 1)) ≤ m.1 2 c := lowStep_h k2
  have a3 : lowStep (m.1 2) x2 (decide (c % 8 < 7)) (c + 1) < 32 := lowStep_lt a2 (fun q => (ok3 q).1)
  generalize lowStep (m.1 2) x2 (decide (c % 8 < 7)) (c + 1) = x3 at k3 a3
  show B_X4_lowestOf_16 (L_X4_lowestOf_16 b (nI c) s (fun e6 => some e6) 996) b (nI c) s (fun e6 => some e6) (wI c x3) (nI (m.1 2 x3)) 3 = _
  rw [(r_lowAt hc _ _).2.2.2.1, r_lowStep (K := fun w x => L_X4_lowestOf_16 b (nI c) s (fun e6 => some e6) 996 w x 4) (g x3 a3).2 ok4, wI_step k3]
  generalize lowStep (m.1 2) x3 (decide (c < 24)) (c + 8) = x4
  show B_X4_lowestOf_16 (L_X4_lowestOf_16 b (nI c) s (fun e6 => some e6) 995) b (nI c) s (fun e6 => some e6) (wI c x4) (nI (m.1 2 x4)) 4 = _
  rw [(r_lowAt hc _ _).2.2.2.2]
  unfold wI
  by_cases q : x4 = c <;> simp [q]
theorem r_comesTo (h : MM s b mu m) {c x : Nat} (hc : c < 32) (hx : m.1 3 c + x < 2 ^ 31) : f_X4_comesTo b (nI c) (nI x) s = some (pA s (b + 1) (39 + c) (nI (min 99 (m.1 3 c + x)))) := by
  unfold f_X4_comesTo
  rw [show (39 : Int32) + nI c = nI (39 + c) from nI_add 39 c, gd_n (show 39 + c < 103 by omega) (by omega), ix_n (by omega), (h.1.2.2.2.2.1 c hc).2, nI_add, r_held _ hx, cp_s, gd_n (show 39 + c < 103 by omega) (by omega), bn_e]
theorem r_y0 (K : St → Option St) : ∃ s', L_X4_yearGoes_2 b K FU (0 : Int32) s = K s' ∧ Fr (fun k => k = b + 4) s s' ∧ ∀ c, c < 32 → gA s' (b + 4) c = 0 := by
  refine loop0 (fun n c s => L_X4_yearGoes_2 b K n c s) K 32 (by omega) (fun i t => Fr (fun k => k = b + 4) s t ∧ ∀ c, c < i → gA t (b + 4) c = 0) s ⟨Fr.rf, fun c hc => absurd hc (by omega)⟩ ?_ ?_
  · intro n t _
    show B_X4_yearGoes_2 _ b K (nI 32) t = K t
    unfold B_X4_yearGoes_2
    exact if_pos (nI_le (Nat.le_refl 32) (by omega))
  · intro n i t hi ⟨hF, hC⟩
    show ∃ s', B_X4_yearGoes_2 (L_X4_yearGoes_2 b K n) b K (nI i) t = L_X4_yearGoes_2 b K n (nI (i + 1)) s' ∧ _
    unfold B_X4_yearGoes_2
    rw [if_neg (by rw [li_32]; exact nI_ge hi (by omega)), gd_n hi (by omega), ix_n (by omega), bn_e, nI_1]
    refine ⟨_, rfl, hF.tr (Fr.pA rfl), fun c hc => ?_⟩
    rw [gA_pA]
    by_cases q : c = i
    · rw [if_pos ⟨rfl, q⟩]
    · rw [if_neg (fun z => q z.2)]; exact hC c (by omega)
def moreTo (mu : Nat) (m : MS) (p i c : Nat) : Nat := sumTo (gainR mu m c) p + if m.1 8 p = c then wellS mu m p + m.1 1 1 * sumTo (fun o => if p < o then disN mu m p o else 0) i else 0
theorem r_yIn (h : MM s b mu m) (hb : BM m) (hmu : mu < 256) {p : Nat} (hp : p < m.1 0 0) (K : St → Option St) (hq : ∀ c, c < 32 → gA s (b + 4) c = nI (moreTo mu m p (p + 1) c)) :
    ∃ s', L_X4_yearGoes_56 b (nI p) K FU (nI (p + 1)) s = K s' ∧ Fr (fun k => k = b + 4) s s' ∧ ∀ c, c < 32 → gA s' (b + 4) c = nI (moreTo mu m p (m.1 0 0) c) := by
  have h8 := hb.1
  have b4 := (hb.2.2.2.2.2 p hp).2.2.2
  obtain ⟨s', e, P1, P2⟩ := loopR (fun n c s => L_X4_yearGoes_56 b (nI p) K n c s) K (m.1 0 0) (fun i t => (Fr (fun k => k = b + 4) s t ∧ p < i) ∧ ∀ c, c < 32 → gA t (b + 4) c = nI (moreTo mu m p i c)) (by
    intro n t ⟨⟨hF, _⟩, _⟩
    have hM := h.fr hF (by omega) (by omega)
    show B_X4_yearGoes_56 _ b (nI p) K (nI (m.1 0 0)) t = K t
    unfold B_X4_yearGoes_56
    rw [hM.1.2.2.1]
    exact if_pos (nI_le (Nat.le_refl _) (by omega))) (by
    intro n i t hi ⟨⟨hF, hpi⟩, hC⟩
    have hM := h.fr hF (by omega) (by omega)
    show ∃ s', B_X4_yearGoes_56 (L_X4_yearGoes_56 b (nI p) K n) b (nI p) K (nI i) t = L_X4_yearGoes_56 b (nI p) K n (nI (i + 1)) s' ∧ _
    have e1 := r_doDisagree hM hb hmu (p := p) (q := i) hp hi
    rw [decide_eq_true (show p ≠ i by omega), Bool.true_and] at e1
    have ev : (if bI (disS mu m p i) = 0 then (0 : Int32) else nI (m.1 1 1)) = nI (m.1 1 1 * disN mu m p i) := by
      unfold disN
      cases disS mu m p i <;> simp [bI, nI_0]
    unfold B_X4_yearGoes_56
    rw [hM.1.2.2.1, if_neg (nI_ge hi (by omega)), r_g3 hM h8 hp, cp_s, gd_n (show m.1 8 p < 32 by omega) (by omega), e1, cp_s, bn_if2, hM.1.2.2.2.1 1 (by omega), ev, gd_n (show m.1 8 p < 32 by omega) (by omega), ix_n (show m.1 8 p < 2 ^ 31 by omega), hC _ (by omega), nI_add, bn_e, nI_1]
    refine ⟨_, rfl, ⟨hF.tr (Fr.pA rfl), by omega⟩, fun c hc => ?_⟩
    have eS : ∀ x, moreTo mu m p (i + 1) x = moreTo mu m p i x + if m.1 8 p = x then m.1 1 1 * disN mu m p i else 0 := by
      intro x
      unfold moreTo
      simp only [sumTo, hpi, if_true]
      split
      · rw [Nat.mul_add]; omega
      · omega
    rw [gA_pA, eS]
    by_cases q : c = m.1 8 p
    · rw [if_pos ⟨rfl, q⟩, if_pos q.symm, q]
    · rw [if_neg (fun z => q z.2), if_neg (fun z => q z.symm), Nat.add_zero]; exact hC c hc) (m.1 0 0 - (p + 1)) (p + 1) s FU (by omega) (by show _ < 1000; omega) ⟨⟨Fr.rf, by omega⟩, hq⟩
  exact ⟨s', e, P1.1, P2⟩
theorem r_y1 (h : MM s b mu m) (hb : BM m) (hmu : mu < 256) (K : St → Option St) (hq : ∀ c, c < 32 → gA s (b + 4) c = 0) :
    ∃ s', L_X4_yearGoes_23 b K FU (0 : Int32) s = K s' ∧ Fr (fun k => k = b + 4) s s' ∧ ∀ c, c < 32 → gA s' (b + 4) c = nI (sumTo (gainR mu m c) (m.1 0 0)) := by
  have h8 := hb.1
  refine loop0 (fun n c s => L_X4_yearGoes_23 b K n c s) K (m.1 0 0) (by omega) (fun i t => Fr (fun k => k = b + 4) s t ∧ ∀ c, c < 32 → gA t (b + 4) c = nI (sumTo (gainR mu m c) i)) s ⟨Fr.rf, hq⟩ ?_ ?_
  · intro n t ⟨hF, _⟩
    have hM := h.fr hF (by omega) (by omega)
    show B_X4_yearGoes_23 _ b K (nI (m.1 0 0)) t = K t
    unfold B_X4_yearGoes_23
    rw [hM.1.2.2.1]
    exact if_pos (nI_le (Nat.le_refl _) (by omega))
  · intro n i t hi ⟨hF, hC⟩
    have hM := h.fr hF (by omega) (by omega)
    have b4 := (hb.2.2.2.2.2 i hi).2.2.2
    show ∃ s', B_X4_yearGoes_23 (L_X4_yearGoes_23 b K n) b K (nI i) t = L_X4_yearGoes_23 b K n (nI (i + 1)) s' ∧ _
    unfold B_X4_yearGoes_23
    rw [hM.1.2.2.1, if_neg (nI_ge hi (by omega)), r_g3 hM h8 hi, cp_s, gd_n (show m.1 8 i < 32 by omega) (by omega), r_wells hM hb hmu hi, cp_s, gd_n (show m.1 8 i < 32 by omega) (by omega), ix_n (show m.1 8 i < 2 ^ 31 by omega), hC _ (by omega), nI_add, bn_e, bn_e, nI_1]
    have hF2 : Fr (fun k => k = b + 4) s (pA t (b + 4) (m.1 8 i) (nI (sumTo (gainR mu m (m.1 8 i)) i + wellS mu m i))) := hF.tr (Fr.pA rfl)
    have hz : sumTo (fun o => if i < o then disN mu m i o else 0) (i + 1) = 0 := by
      have : sumTo (fun o => if i < o then disN mu m i o else 0) (i + 1) ≤ (i + 1) * 0 := sumTo_le (fun o ho => by rw [if_neg (by omega)]; exact Nat.le_refl _)
      omega
    obtain ⟨s', e, f, g⟩ := r_yIn (h.fr hF2 (by omega) (by omega)) hb hmu hi (fun s17 => L_X4_yearGoes_23 b K n (nI (i + 1)) s17) (fun c hc => by
      rw [gA_pA]
      unfold moreTo
      rw [hz]
      by_cases q : c = m.1 8 i
      · rw [if_pos ⟨rfl, q⟩, if_pos q.symm, q, Nat.mul_zero, Nat.add_zero]
      · rw [if_neg (fun z => q z.2), if_neg (fun z => q z.symm), Nat.add_zero]; exact hC c hc)
    refine ⟨s', e, hF2.tr f, fun c hc => ?_⟩
    rw [g c hc]
    rfl
theorem gainR_le (hb : BM m) (c : Nat) {p : Nat} (hp : p < m.1 0 0) : gainR mu m c p ≤ 102 := by
  have h8 := hb.1
  have h1 := wellS_le (mu := mu) hb hp
  have h2 := hb.2.1 1 (by omega)
  have h3 : behind mu m (m.1 0 0) p ≤ m.1 0 0 * 1 := sumTo_le (fun o _ => by
    have := disN_le mu m p o
    split <;> omega)
  have h4 : m.1 1 1 * behind mu m (m.1 0 0) p ≤ 9 * 8 := Nat.mul_le_mul h2 (by omega)
  unfold gainR
  split <;> omega
theorem r_y2 (h : MM s b mu m) (hb : BM m) (K : St → Option St) (hq : ∀ c, c < 32 → gA s (b + 4) c = nI (sumTo (gainR mu m c) (m.1 0 0))) :
    ∃ s', L_X4_yearGoes_113 b K FU (0 : Int32) s = K s' ∧ Fr (fun k => k = b + 1) s s' ∧ MM s' b mu (yW mu m) := by
  have h8 := hb.1
  have hs : ∀ c, sumTo (gainR mu m c) (m.1 0 0) ≤ 8 * 102 := fun c => by
    have : sumTo (gainR mu m c) (m.1 0 0) ≤ m.1 0 0 * 102 := sumTo_le (fun p hp => gainR_le hb c hp)
    omega
  obtain ⟨s', e, f, g⟩ := loop0 (fun n c s => L_X4_yearGoes_113 b K n c s) K 32 (by omega) (fun i t => Fr (fun k => k = b + 1) s t ∧ MM t b mu (setR m 3 (fun c => if c < i then wetW mu m c else m.1 3 c))) s ⟨Fr.rf, h.self3.congW (fun c _ => by rw [if_neg (by omega)])⟩ (by
    intro n t _
    show B_X4_yearGoes_113 _ b K (nI 32) t = K t
    unfold B_X4_yearGoes_113
    exact if_pos (nI_le (Nat.le_refl 32) (by omega))) (by
    intro n i t hi ⟨hF, hC⟩
    show ∃ s', B_X4_yearGoes_113 (L_X4_yearGoes_113 b K n) b K (nI i) t = L_X4_yearGoes_113 b K n (nI (i + 1)) s' ∧ _
    have e4 : gA t (b + 4) i = nI (sumTo (gainR mu m i) (m.1 0 0)) := ((hF (b + 4) (by omega)).2.1 i).trans (hq i hi)
    have hw := (hb.2.2.2.2.1 i hi).2
    have hsi := hs i
    have ei : (setR m 3 (fun c => if c < i then wetW mu m c else m.1 3 c)).1 3 i = m.1 3 i := by rw [setR_at, if_neg (by omega)]
    have e5 := r_comesTo hC (c := i) (x := sumTo (gainR mu m i) (m.1 0 0)) hi (by rw [ei]; omega)
    rw [ei] at e5
    unfold B_X4_yearGoes_113
    rw [if_neg (by rw [li_32]; exact nI_ge hi (by omega)), gd_n hi (by omega), ix_n (show i < 2 ^ 31 by omega), e4, e5, cw_s, nI_1]
    refine ⟨_, rfl, hF.tr (Fr.pA rfl), ?_⟩
    have hC2 := hC.pW h8 (c := i) (v := min 99 (m.1 3 i + sumTo (gainR mu m i) (m.1 0 0))) hi
    rw [setR_setR] at hC2
    refine hC2.congW (fun c hc => ?_)
    rw [setR_at]
    by_cases q : c = i
    · rw [if_pos q, if_pos (by omega), q]; rfl
    · rw [if_neg q]
      by_cases q2 : c < i
      · rw [if_pos q2, if_pos (by omega)]
      · rw [if_neg q2, if_neg (by omega)])
  exact ⟨s', e, f, g.congW (fun c hc => by rw [if_pos hc])⟩
theorem goes1_le : ∀ a, a < 100 → ∀ c, c < 51 → (((nI a - nI c) ≤ (1 : Int32)) ↔ ¬ 2 ≤ a - c) := by decide +kernel
theorem r_y3 (h : MM s b mu m) (hb : BM m) (K : St → Option St) : ∃ s', L_X4_yearGoes_138 b K FU (0 : Int32) s = K s' ∧ Fr (fun k => k = b + 1) s s' ∧ MM s' b mu (yD m) := by
  have h8 := hb.1
  have hw0 : ∀ c, c < 32 → m.1 3 c ≤ 99 := fun c hc => (hb.2.2.2.2.1 c hc).2
  have hbog := hb.2.2.1
  refine loop0 (fun n c s => L_X4_yearGoes_138 b K n c s) K 32 (by omega) (fun i t => Fr (fun k => k = b + 1) s t ∧ MM t b mu (setR m 3 (rdTo (m.1 1 2) (m.1 2) (m.1 3) i))) s ⟨Fr.rf, h.self3⟩ ?_ ?_
  · intro n t _
    show B_X4_yearGoes_138 _ b K (nI 32) t = K t
    unfold B_X4_yearGoes_138
    exact if_pos (nI_le (Nat.le_refl 32) (by omega))
  · intro n i t hi ⟨hF, hC⟩
    show ∃ s', B_X4_yearGoes_138 (L_X4_yearGoes_138 b K n) b K (nI i) t = L_X4_yearGoes_138 b K n (nI (i + 1)) s' ∧ _
    have hw := rdTo_le (bog := m.1 1 2) (h := m.1 2) hw0 i (by omega)
    have hb' : BM (setR m 3 (rdTo (m.1 1 2) (m.1 2) (m.1 3) i)) := hb.setW hw
    have e1 : gA t (b + 1) (39 + i) = nI (rdTo (m.1 1 2) (m.1 2) (m.1 3) i i) := (hC.1.2.2.2.2.1 i hi).2
    have e2 : gA t (b + 1) 2 = nI (m.1 1 2) := hC.1.2.2.2.1 2 (by omega)
    have e3 : f_X4_lowestOf b (nI i) t = some (lowI (m.1 2) i (-3)) := r_lowestOf hC hb' hi
    have hwi := hw i hi
    have hlow := lowS_lt (h := m.1 2) hi
    have eS : rdTo (m.1 1 2) (m.1 2) (m.1 3) (i + 1) = rdStep (m.1 1 2) (m.1 2) i (rdTo (m.1 1 2) (m.1 2) (m.1 3) i) := rfl
    rw [eS]
    generalize hWd : rdTo (m.1 1 2) (m.1 2) (m.1 3) i = w at hC e1 hw hwi
    unfold B_X4_yearGoes_138
    rw [if_neg (by rw [li_32]; exact nI_ge hi (by omega)), show (39 : Int32) + nI i = nI (39 + i) from nI_add 39 i, gd_n (show 39 + i < 103 by omega) (by omega), ix_n (show 39 + i < 2 ^ 31 by omega), bn_e, e1, e2, bn_e, nI_1]
    by_cases g : 2 ≤ w i - m.1 1 2
    · rw [if_neg (fun q => (goes1_le _ (by omega) _ (by omega)).mp q g), e3, cp_s]
      unfold lowI
      by_cases q : lowS (m.1 2) i = i
      · rw [if_pos q]
        dsimp only
        rw [bn_e, if_pos rfl]
        refine ⟨t, rfl, hF, ?_⟩
        unfold rdStep
        rw [if_neg (fun z => z.2 q)]
        exact hC
      · rw [if_neg q]
        dsimp only
        rw [bn_e, if_neg (fun z => by
          have := congrArg Int32.toInt z
          rw [nI_toInt (by omega), show ((-3 : Int32)).toInt = -3 from rfl] at this
          omega), bn_e, gd_n (show 39 + i < 103 by omega) (by omega), gd_n (show 39 + i < 103 by omega) (by omega), goes_v _ (by omega) _ (by omega) g, bn_e, ix_n (show 39 + i < 2 ^ 31 by omega), e1, pk_sub (by omega)]
        have hC1 := hC.pW h8 (c := i) (v := w i - (w i - m.1 1 2) / 2) hi
        rw [setR_setR] at hC1
        have e5 := r_comesTo hC1 (c := lowS (m.1 2) i) (x := (w i - m.1 1 2) / 2) hlow (by
          rw [setR_at, if_neg q, setR_at]; have := hw _ hlow; omega)
        rw [setR_at, if_neg q, setR_at] at e5
        rw [e5, cw_s]
        refine ⟨_, rfl, (hF.tr (Fr.pA rfl)).tr (Fr.pA rfl), ?_⟩
        have hC2 := hC1.pW h8 (c := lowS (m.1 2) i) (v := min 99 (w (lowS (m.1 2) i) + (w i - m.1 1 2) / 2)) hlow
        rw [setR_setR] at hC2
        refine hC2.congW (fun c hc => ?_)
        have e : rdStep (m.1 1 2) (m.1 2) i w = (fun c => if c = lowS (m.1 2) i then min 99 (w c + (w i - m.1 1 2) / 2) else if c = i then w i - (w i - m.1 1 2) / 2 else w c) := by unfold rdStep; exact if_pos ⟨g, q⟩
        rw [e]
        show (if c = lowS (m.1 2) i then _ else _) = (if c = lowS (m.1 2) i then _ else _)
        by_cases z : c = lowS (m.1 2) i
        · rw [if_pos z, if_pos z, z]
        · rw [if_neg z, if_neg z]; rfl
    · rw [if_pos ((goes1_le _ (by omega) _ (by omega)).mpr g)]
      dsimp only
      rw [bn_e, if_pos rfl]
      refine ⟨t, rfl, hF, ?_⟩
      unfold rdStep
      rw [if_neg (fun z => g z.1)]
      exact hC
theorem r_y4 (h : MM s b mu m) (hb : BM m) (K : St → Option St) : ∃ s', L_X4_yearGoes_214 b K FU (0 : Int32) s = K s' ∧ Fr (fun k => k = b + 1) s s' ∧ MM s' b mu (yM m) := by
  have h8 := hb.1
  refine loop0 (fun n c s => L_X4_yearGoes_214 b K n c s) K (m.1 0 0) (by omega) (fun i t => Fr (fun k => k = b + 1) s t ∧ MM t b mu (setR m 7 (mindTo m i))) s ⟨Fr.rf, ?_⟩ ?_ ?_
  · exact ⟨h.1.congr rfl rfl (fun _ _ => rfl) (fun _ _ => rfl) (fun _ _ => rfl) (fun p hp => ⟨rfl, rfl, by simp [setR, mindTo], rfl⟩), h.2⟩
  · intro n t ⟨_, hC⟩
    show B_X4_yearGoes_214 _ b K (nI (m.1 0 0)) t = K t
    unfold B_X4_yearGoes_214
    rw [hC.1.2.2.1]
    exact if_pos (nI_le (Nat.le_refl _) (by show m.1 0 0 < 2 ^ 31; omega))
  · intro n i t hi ⟨hF, hC⟩
    show ∃ s', B_X4_yearGoes_214 (L_X4_yearGoes_214 b K n) b K (nI i) t = L_X4_yearGoes_214 b K n (nI (i + 1)) s' ∧ _
    have hb' : BM (setR m 7 (mindTo m i)) := hb.setS (mindTo_le hb i)
    have b4 := (hb.2.2.2.2.2 i hi).2.2.2
    have b7 := (hb.2.2.2.2.2 i hi).2.2.1
    have e7 : (setR m 7 (mindTo m i)).1 7 i = m.1 7 i := by simp [setR, mindTo]
    have eg2 := r_g2 hC h8 (p := i) hi
    rw [e7] at eg2
    have eg3 : f_X4_get b (nI i) (3 : Int32) t = some (nI (m.1 8 i)) := r_g3 hC h8 (p := i) hi
    have eW : f_X4_isWet b (nI (m.1 8 i)) t = some (bI (decide (10 ≤ m.1 3 (m.1 8 i)))) := r_isWet hC hb' (by omega)
    have eWi : f_X4_winsOf b (nI i) t = some (nI (winS m i)) := r_winsOf hC hb' hi
    have eLo : f_X4_losesOf b (nI i) t = some (nI (l5S m i) - nI 5) := r_losesOf hC hb' hi
    have hl5 := l5S_le hb hi
    have hwn := winS_le m i
    have z2 : nI (m.1 7 i) ≤ 0 ↔ m.1 7 i = 0 := by rw [← nI_0, nI_leI (by omega) (by omega)]; omega
    unfold B_X4_yearGoes_214
    rw [hC.1.2.2.1, if_neg (nI_ge (a := i) (b := (setR m 7 (mindTo m i)).1 0 0) hi (by show m.1 0 0 < 2 ^ 31; omega)), eg2, cp_s, bn_e, nI_1]
    by_cases z : m.1 7 i = 0
    · rw [if_pos (z2.mpr z)]
      refine ⟨t, rfl, hF, hC.congS (fun p hp => ?_)⟩
      unfold mindTo
      by_cases q : p < i
      · rw [if_pos q, if_pos (by omega)]
      · rw [if_neg q]
        by_cases q2 : p = i
        · subst q2; rw [if_pos (by omega)]; unfold newSure; rw [if_pos z, z]
        · rw [if_neg (by omega)]
    · rw [if_neg (fun w => z (z2.mp w)), cp_s, eg3, cp_s, eW, cp_s, bn_e]
      have fin : ∀ v, newSure m i = v → ∃ s', cw (f_X4_puts b (nI i) (2 : Int32) (nI v) t) (fun s59 => L_X4_yearGoes_214 b K n (nI (i + 1)) s59) = L_X4_yearGoes_214 b K n (nI (i + 1)) s' ∧ Fr (fun k => k = b + 1) s s' ∧ MM s' b mu (setR m 7 (mindTo m (i + 1))) := by
        intro v hv
        rw [r_p2 (show i < 8 by omega), cw_s]
        refine ⟨_, rfl, hF.tr (Fr.pA rfl), ?_⟩
        have hC2 := hC.pS (p := i) (v := v)
        rw [setR_setR] at hC2
        refine hC2.congS (fun p hp => ?_)
        rw [setR_at]
        unfold mindTo
        by_cases q : p = i
        · rw [if_pos q, if_pos (by omega), q, hv]
        · rw [if_neg q]
          by_cases q2 : p < i
          · rw [if_pos q2, if_pos (by omega)]
          · rw [if_neg q2, if_neg (by omega)]
      by_cases w : 10 ≤ m.1 3 (m.1 8 i)
      · rw [if_neg (by rw [decide_eq_true w]; decide), eLo, cp_s]
        dsimp only
        rw [r_held_m _ (by omega) _ (by omega), cp_s]
        exact fin _ (by unfold newSure; rw [if_neg z, if_pos w])
      · rw [if_pos (by rw [decide_eq_false w]; decide), eWi, cp_s]
        dsimp only
        rw [nI_add, r_held _ (by omega), cp_s]
        exact fin _ (by unfold newSure; rw [if_neg z, if_neg w])
theorem MM.pY (h : MM s b mu m) (h8 : m.1 0 0 ≤ 8) (y : Int32) : MM (pA s (b + 1) 4 y) b mu (m.1, y, m.2.2) := by
  obtain ⟨⟨h1, h2, h3, h4, h5, h6⟩, h7⟩ := h
  refine ⟨⟨?_, ?_, ?_, fun i hi => ?_, fun x hx => ⟨?_, ?_⟩, fun x hx => ?_⟩, h7⟩
  · rw [gA_pA, if_pos ⟨rfl, rfl⟩]
  · rw [gA_pA, if_neg (by omega)]; exact h2
  · rw [gA_pA, if_neg (by omega)]; exact h3
  · rw [gA_pA, if_neg (by omega)]; exact h4 i hi
  · rw [gA_pA, if_neg (by omega)]; exact (h5 x hx).1
  · rw [gA_pA, if_neg (by omega)]; exact (h5 x hx).2
  · obtain ⟨x1, x2, x3, x4⟩ := h6 x hx
    refine ⟨?_, ?_, ?_, ?_⟩ <;> rw [gA_pA, if_neg (by omega)] <;> assumption
/-- what a year of the reference touches -/
def wR (b : Nat) : Nat → Prop := fun k => k = b + 1 ∨ k = b + 4
theorem r_yearGoes (h : MM s b mu m) (hb : BM m) (hmu : mu < 256) : ∃ s', f_X4_yearGoes b s = some s' ∧ Fr (wR b) s s' ∧ MM s' b mu (yearS mu m) := by
  have b1 : BM (yW mu m) := hb.setW (fun c _ => by unfold wetW; omega)
  have b2 : BM (yD (yW mu m)) := b1.setW (rdTo_le (fun c hc => (b1.2.2.2.2.1 c hc).2) 32 (by omega))
  unfold f_X4_yearGoes
  obtain ⟨s1, e1, f1, g1⟩ := r_y0 (s := s) (b := b) _
  rw [e1]
  have m1 := h.fr f1 (by omega) (by omega)
  obtain ⟨s2, e2, f2, g2⟩ := r_y1 m1 hb hmu _ g1
  rw [e2]
  have m2 := m1.fr f2 (by omega) (by omega)
  obtain ⟨s3, e3, f3, m3⟩ := r_y2 m2 hb _ g2
  rw [e3]
  obtain ⟨s4, e4, f4, m4⟩ := r_y3 m3 b1 _
  rw [e4]
  obtain ⟨s5, e5, f5, m5⟩ := r_y4 m4 b2 _
  rw [e5, bn_e]
  refine ⟨_, rfl, ?_, ?_⟩
  · exact (((((f1.wk (fun k q => Or.inr q)).tr (f2.wk (fun k q => Or.inr q))).tr (f3.wk (fun k q => Or.inl q))).tr (f4.wk (fun k q => Or.inl q))).tr (f5.wk (fun k q => Or.inl q))).tr (Fr.pA (Or.inl rfl))
  · have := m5.pY (show (yM (yD (yW mu m))).1 0 0 ≤ 8 from hb.1) (gA s5 (b + 1) 4 + 1)
    rw [m5.1.1] at this ⊢
    exact this
theorem r_yearsGo (h : MM s b mu m) (hb : BM m) (hmu : mu < 256) {n : Nat} (hn : n ≤ 60) : ∃ s', f_X4_yearsGo b (nI n) s = some s' ∧ Fr (wR b) s s' ∧ MM s' b mu (yearsS mu m n) := by
  refine loop0 (fun k c s => L_X4_yearsGo_2 b (nI n) (fun s3 => some s3) k c s) (fun s3 => some s3) n (by omega) (fun i t => Fr (wR b) s t ∧ MM t b mu (yearsS mu m i)) s ⟨Fr.rf, h⟩ ?_ ?_
  · intro k t _
    show B_X4_yearsGo_2 _ b (nI n) _ (nI n) t = _
    unfold B_X4_yearsGo_2
    exact if_pos (nI_le (Nat.le_refl _) (by omega))
  · intro k i t hi ⟨hF, hC⟩
    show ∃ s', B_X4_yearsGo_2 (L_X4_yearsGo_2 b (nI n) (fun s3 => some s3) k) b (nI n) _ (nI i) t = L_X4_yearsGo_2 b (nI n) (fun s3 => some s3) k (nI (i + 1)) s' ∧ _
    obtain ⟨t2, e, f, c⟩ := r_yearGoes hC (hb.years mu i) hmu
    unfold B_X4_yearsGo_2
    rw [if_neg (nI_ge hi (by omega)), e, cw_s, nI_1]
    exact ⟨t2, rfl, hF.tr f, c⟩
end YEARR
