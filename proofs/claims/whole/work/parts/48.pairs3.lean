/-! pairs: heights, who comes -/
section PAIRS3
variable {s : St} {b d mu : Nat} {m : MS}
theorem c_raise (h : CM s b mu m) (hb : BM m) {c v : Nat} (hc : c < 32) (hv : v ≤ 9) : ∃ s', f_X1_raise b (nI c) (nI v) s = some s' ∧ Fr (fun k => k = b + 2 ∨ k = b + 4) s s' ∧ CM s' b mu (setR m 2 (upN (m.1 2) c v)) := by
  have hF0 : Fr (fun k => k = b + 2 ∨ k = b + 4) s (pA s (b + 2) c (nI v)) := Fr.pA (Or.inl rfl)
  have hH : CH (pA s (b + 2) c (nI v)) b (upN (m.1 2) c v) := by
    intro x hx
    rw [gA_pA]
    unfold upN
    by_cases q : x = c
    · rw [if_pos ⟨rfl, q⟩, if_pos q]; exact ⟨rfl, hv⟩
    · rw [if_neg (fun z => q z.2), if_neg q]; exact ⟨(h.2.2.2.2.2.1 x hx).1, (hb.2.2.2.2.1 x hx).1⟩
  obtain ⟨s', e, ⟨f, g⟩⟩ := loop0 (fun n c s => L_X1_raise_9 b (fun s5 => some s5) n c s) (fun s5 => some s5) 32 (by omega) (fun i t => Fr (fun k => k = b + 4) (pA s (b + 2) c (nI v)) t ∧ ∀ x, x < i → gA t (b + 4) x = lowI (upN (m.1 2) c v) x (-1)) (pA s (b + 2) c (nI v)) ⟨Fr.rf, fun x hx => absurd hx (by omega)⟩ (by
    intro n t _
    show B_X1_raise_9 _ b _ (nI 32) t = _
    unfold B_X1_raise_9
    exact if_pos (nI_le (Nat.le_refl 32) (by omega))) (by
    intro n i t hi ⟨hF, hC⟩
    show ∃ s', B_X1_raise_9 (L_X1_raise_9 b (fun s5 => some s5) n) b _ (nI i) t = L_X1_raise_9 b (fun s5 => some s5) n (nI (i + 1)) s' ∧ _
    have hH2 : CH t b (upN (m.1 2) c v) := fun x hx => ⟨((hF (b + 2) (by omega)).2.1 x).trans (hH x hx).1, (hH x hx).2⟩
    unfold B_X1_raise_9
    rw [if_neg (by rw [li_32]; exact nI_ge hi (by omega)), c_lowestBeside hH2 hi, cp_s, gd_n hi (by omega), ix_n (by omega), bn_e, nI_1]
    refine ⟨_, rfl, hF.tr (Fr.pA rfl), fun x hx => ?_⟩
    rw [gA_pA]
    by_cases q : x = i
    · rw [if_pos ⟨rfl, q⟩, q]
    · rw [if_neg (fun z => q z.2)]; exact hC x (by omega))
  refine ⟨s', ?_, hF0.tr (f.wk (fun k q => Or.inr q)), ?_⟩
  · unfold f_X1_raise
    rw [gd_n hc (by omega), ix_n (by omega), bn_e]
    exact e
  · have hF := hF0.tr (f.wk (fun k q => Or.inr q))
    obtain ⟨h1, h2, h3, h4, h5, h6, h7⟩ := h
    have hA : ∀ k, k ≠ b + 2 → k ≠ b + 4 → ∀ j, gA s' k j = gA s k j := fun k q1 q2 => (hF k (by omega)).2.1
    refine ⟨((hF b (by omega)).1 1).trans h1, ((hF b (by omega)).1 2).trans h2, ((hF b (by omega)).1 6).trans h3, ((hF b (by omega)).1 11).trans h4, fun x hx => (hA (b + 1) (by omega) (by omega) x).trans (h5 x hx), fun x hx => ⟨?_, (hA (b + 3) (by omega) (by omega) x).trans (h6 x hx).2.1, g x hx⟩, fun x hx => ⟨(hA (b + 5) (by omega) (by omega) x).trans (h7 x hx).1, (hA (b + 6) (by omega) (by omega) x).trans (h7 x hx).2.1, (hA (b + 7) (by omega) (by omega) x).trans (h7 x hx).2.2.1, (hA (b + 8) (by omega) (by omega) x).trans (h7 x hx).2.2.2⟩⟩
    exact ((f (b + 2) (by omega)).2.1 x).trans (hH x hx).1
theorem MM.pH (h : MM s b mu m) (h8 : m.1 0 0 ≤ 8) {c v : Nat} (hc : c < 32) : MM (pA s (b + 1) (7 + c) (nI v)) b mu (setR m 2 (upN (m.1 2) c v)) := by
  obtain ⟨⟨h1, h2, h3, h4, h5, h6⟩, h7⟩ := h
  refine ⟨⟨?_, ?_, ?_, fun i hi => ?_, fun x hx => ⟨?_, ?_⟩, fun p hp => ?_⟩, h7⟩
  · rw [gA_pA, if_neg (by omega)]; exact h1
  · rw [gA_pA, if_neg (by omega)]; exact h2
  · rw [gA_pA, if_neg (by omega)]; exact h3
  · rw [gA_pA, if_neg (by omega)]; exact h4 i hi
  · rw [gA_pA]
    show _ = nI (if x = c then v else m.1 2 x)
    by_cases q : x = c
    · rw [if_pos ⟨rfl, by omega⟩, if_pos q]
    · rw [if_neg (by omega), if_neg q]; exact (h5 x hx).1
  · rw [gA_pA, if_neg (by omega)]; exact (h5 x hx).2
  · obtain ⟨x1, x2, x3, x4⟩ := h6 p hp
    refine ⟨?_, ?_, ?_, ?_⟩ <;> rw [gA_pA, if_neg (by omega)] <;> assumption
theorem p_height (hd : d = b + 53) (hC : CM s (b + 1) 0 m) (hM : MM s d 0 m) (hB : BM m) (a1 a2 : Int32) : PO b d s (f_X3_height b a1 a2) (f_X4_height d a1 a2) := by
  have h8 := hB.1
  have c1 := f_X3_height.eq_1 b a1 a2 s
  rw [c_isCell a1, cp_s, c_isWithin a2 9 (n := 9) (by decide), cp_s] at c1
  have r1 : ∀ t, f_X4_height d a1 a2 t = _ := fun t => by unfold f_X4_height; rw [r_isCell a1, cp_s, r_inN a2 9 (n := 9) (by decide), cp_s]
  cases h : wp a1 32
  · exact PO.no (x := -1) hC hM hB (by rw [c1, h]; rfl) (by rw [r1, h]; rfl)
  · obtain ⟨c, hc, rfl⟩ := wp_of h (by omega)
    cases h2 : wp a2 (9 + 1)
    · exact PO.no (x := -1) hC hM hB (by rw [c1, h, h2]; rfl) (by rw [r1, h, h2]; rfl)
    · obtain ⟨v, hv, rfl⟩ := wp_of h2 (by omega)
      obtain ⟨s1, e, f, g⟩ := c_raise hC hB hc (show v ≤ 9 by omega)
      rw [h, h2, if_neg (by decide), if_neg (by decide), gd_n hc (by omega), ix_n (by omega), bn_e, e, cw_s, (hC.2.2.2.2.2.1 c hc).1] at c1
      refine PO.mk hd hM (m' := setR m 2 (upN (m.1 2) c v)) ?_ c1 (f.wk (fun k q => by unfold wC; omega)) g (fun hM1 => ?_)
      · refine ⟨hB.1, hB.2.1, hB.2.2.1, hB.2.2.2.1, fun x hx => ⟨?_, (hB.2.2.2.2.1 x hx).2⟩, hB.2.2.2.2.2⟩
        have := (hB.2.2.2.2.1 x hx).1
        show (if x = c then v else m.1 2 x) ≤ 9
        split <;> omega
      · rw [r1, h, h2, if_neg (by decide), if_neg (by decide), show (7 : Int32) + nI c = nI (7 + c) from nI_add 7 c, gd_n (show 7 + c < 103 by omega) (by omega), ix_n (by omega), bn_e, gd_n (show 7 + c < 103 by omega) (by omega), bn_e, (hM1.1.2.2.2.2.1 c hc).1]
        exact ⟨_, rfl, Fr.pA (Or.inl rfl), hM1.pH h8 hc⟩
/-- one more comes -/
def comeS (m : MS) (k e u a : Nat) : MS := setR (setR (setR (setR (setR m 5 (upN (m.1 5) (m.1 0 0) k)) 6 (upN (m.1 6) (m.1 0 0) e)) 7 (upN (m.1 7) (m.1 0 0) u)) 8 (upN (m.1 8) (m.1 0 0) a)) 0 (upN (m.1 0) 0 (m.1 0 0 + 1))
theorem comeS_0 (m : MS) (k e u a : Nat) : (comeS m k e u a).1 0 0 = m.1 0 0 + 1 := by simp [comeS, setR, upN]
theorem comeS_c (m : MS) (k e u a : Nat) : (comeS m k e u a).1 1 = m.1 1 ∧ (comeS m k e u a).1 2 = m.1 2 ∧ (comeS m k e u a).1 3 = m.1 3 ∧ (comeS m k e u a).2 = m.2 := by simp [comeS, setR]
theorem comeS_p (m : MS) (k e u a : Nat) (p : Nat) : (comeS m k e u a).1 5 p = (if p = m.1 0 0 then k else m.1 5 p) ∧ (comeS m k e u a).1 6 p = (if p = m.1 0 0 then e else m.1 6 p) ∧ (comeS m k e u a).1 7 p = (if p = m.1 0 0 then u else m.1 7 p) ∧ (comeS m k e u a).1 8 p = (if p = m.1 0 0 then a else m.1 8 p) := by simp [comeS, setR, upN]
theorem BM.come (hB : BM m) (h : m.1 0 0 < 8) {k e u a : Nat} (hk : k ≤ 5) (he : e ≤ 9) (hu : u ≤ 99) (ha : a ≤ 31) : BM (comeS m k e u a) := by
  obtain ⟨c1, c2, c3, c4⟩ := comeS_c m k e u a
  refine ⟨by rw [comeS_0]; omega, by rw [c1]; exact hB.2.1, by rw [c1]; exact hB.2.2.1, by rw [c1]; exact hB.2.2.2.1, by rw [c2, c3]; exact hB.2.2.2.2.1, fun p hp => ?_⟩
  rw [comeS_0] at hp
  obtain ⟨e1, e2, e3, e4⟩ := comeS_p m k e u a p
  rw [e1, e2, e3, e4]
  by_cases q : p = m.1 0 0
  · simp only [q, if_true]; exact ⟨hk, he, hu, ha⟩
  · simp only [q, if_false]; exact hB.2.2.2.2.2 p (by omega)
theorem c_comes (h : CM s b mu m) (h8 : m.1 0 0 < 8) (k e u a : Nat) : ∃ s', f_X1_comes b (nI k) (nI e) (nI u) (nI a) s = some (nI (m.1 0 0), s') ∧ Fr (wM b) s s' ∧ CM s' b mu (comeS m k e u a) := by
  obtain ⟨h1, h2, h3, h4, h5, h6, h7⟩ := h
  refine ⟨pF (pA (pA (pA (pA s (b + 5) (m.1 0 0) (nI k)) (b + 6) (m.1 0 0) (nI e)) (b + 7) (m.1 0 0) (nI u)) (b + 8) (m.1 0 0) (nI a)) b 6 (nI (m.1 0 0 + 1)), ?_, ?_, ?_⟩
  · unfold f_X1_comes
    have g : ∀ (t : St) (k' i : Nat) (v : Int32), gF (pA t k' i v) b 6 = gF t b 6 := fun _ _ _ _ => rfl
    simp only [bn_e, g, h3]
    rw [if_pos (by rw [li_8]; exact nI_lt h8 (by omega)), gd_n h8 (by omega), gd_n h8 (by omega), gd_n h8 (by omega), gd_n h8 (by omega), ix_n (by omega), nI_1, gF_pF, if_pos ⟨rfl, rfl⟩, nI_pred]
  · exact ((((Fr.pA (by unfold wM; omega)).tr (Fr.pA (by unfold wM; omega))).tr (Fr.pA (by unfold wM; omega))).tr (Fr.pA (by unfold wM; omega))).tr (Fr.pF (by unfold wM; omega))
  · obtain ⟨c1, c2, c3, c4⟩ := comeS_c m k e u a
    have gP : ∀ (t : St) (k' j : Nat) (v : Int32) (k2 i2 : Nat), gA (pF t k' j v) k2 i2 = gA t k2 i2 := fun _ _ _ _ _ _ => rfl
    have gQ : ∀ (t : St) (k' j : Nat) (v : Int32) (k2 i2 : Nat), gF (pA t k' j v) k2 i2 = gF t k2 i2 := fun _ _ _ _ _ _ => rfl
    refine ⟨?_, ?_, ?_, ?_, fun x hx => ?_, fun x hx => ?_, fun x hx => ?_⟩
    · rw [gF_pF, if_neg (by omega), c4]; simp only [gQ]; exact h1
    · rw [gF_pF, if_neg (by omega), c4]; simp only [gQ]; exact h2
    · rw [gF_pF, if_pos ⟨rfl, rfl⟩, comeS_0]
    · rw [gF_pF, if_neg (by omega)]; simp only [gQ]; exact h4
    · rw [c1, gP, gA_pA, if_neg (by omega), gA_pA, if_neg (by omega), gA_pA, if_neg (by omega), gA_pA, if_neg (by omega)]; exact h5 x hx
    · rw [c2, c3]
      refine ⟨?_, ?_, ?_⟩ <;> rw [gP, gA_pA, if_neg (by omega), gA_pA, if_neg (by omega), gA_pA, if_neg (by omega), gA_pA, if_neg (by omega)]
      · exact (h6 x hx).1
      · exact (h6 x hx).2.1
      · exact (h6 x hx).2.2
    · rw [comeS_0] at hx
      obtain ⟨e1, e2, e3, e4⟩ := comeS_p m k e u a x
      rw [e1, e2, e3, e4]
      by_cases q : x = m.1 0 0
      · simp only [q, if_true, gP]
        refine ⟨?_, ?_, ?_, ?_⟩
        · rw [gA_pA, if_neg (by omega), gA_pA, if_neg (by omega), gA_pA, if_neg (by omega), gA_pA, if_pos ⟨rfl, rfl⟩]
        · rw [gA_pA, if_neg (by omega), gA_pA, if_neg (by omega), gA_pA, if_pos ⟨rfl, rfl⟩]
        · rw [gA_pA, if_neg (by omega), gA_pA, if_pos ⟨rfl, rfl⟩]
        · rw [gA_pA, if_pos ⟨rfl, rfl⟩]
      · simp only [q, if_false, gP]
        obtain ⟨x1, x2, x3, x4⟩ := h7 x (by omega)
        refine ⟨?_, ?_, ?_, ?_⟩ <;> rw [gA_pA, if_neg (by omega), gA_pA, if_neg (by omega), gA_pA, if_neg (by omega), gA_pA, if_neg (by omega)] <;> assumption
theorem r_comes (h : MM s b mu m) (h8 : m.1 0 0 < 8) (k e u a : Nat) : ∃ s', f_X4_comes b (nI k) (nI e) (nI u) (nI a) s = some (nI (m.1 0 0), s') ∧ Fr (fun k => k = b + 1) s s' ∧ MM s' b mu (comeS m k e u a) := by
  obtain ⟨⟨h1, h2, h3, h4, h5, h6⟩, h7⟩ := h
  refine ⟨pA (pA (pA (pA (pA s (b + 1) (71 + 0 + 4 * m.1 0 0) (nI k)) (b + 1) (71 + 1 + 4 * m.1 0 0) (nI e)) (b + 1) (71 + 2 + 4 * m.1 0 0) (nI u)) (b + 1) (71 + 3 + 4 * m.1 0 0) (nI a)) (b + 1) 5 (nI (m.1 0 0 + 1)), ?_, ?_, ?_⟩
  · unfold f_X4_comes
    rw [h3, bn_e, r_p0 h8, cw_s, r_p1 h8, cw_s, r_p2' h8, cw_s, r_p3 h8, cw_s, bn_e]
    rw [gA_pA, if_neg (by omega), gA_pA, if_neg (by omega), gA_pA, if_neg (by omega), gA_pA, if_neg (by omega), h3, nI_1]
  · have q : ∀ (t : St) (i : Nat) (v : Int32), Fr (fun k => k = b + 1) t (pA t (b + 1) i v) := fun t i v => Fr.pA rfl
    exact ((((q _ _ _).tr (q _ _ _)).tr (q _ _ _)).tr (q _ _ _)).tr (q _ _ _)
  · obtain ⟨c1, c2, c3, c4⟩ := comeS_c m k e u a
    have far : ∀ i, i ≠ 5 → i < 71 → gA (pA (pA (pA (pA (pA s (b + 1) (71 + 0 + 4 * m.1 0 0) (nI k)) (b + 1) (71 + 1 + 4 * m.1 0 0) (nI e)) (b + 1) (71 + 2 + 4 * m.1 0 0) (nI u)) (b + 1) (71 + 3 + 4 * m.1 0 0) (nI a)) (b + 1) 5 (nI (m.1 0 0 + 1))) (b + 1) i = gA s (b + 1) i := by
      intro i q1 q2
      rw [gA_pA, if_neg (by omega), gA_pA, if_neg (by omega), gA_pA, if_neg (by omega), gA_pA, if_neg (by omega), gA_pA, if_neg (by omega)]
    refine ⟨⟨?_, ?_, ?_, fun x hx => ?_, fun x hx => ⟨?_, ?_⟩, fun x hx => ?_⟩, h7⟩
    · rw [far 4 (by omega) (by omega), c4]; exact h1
    · rw [far 6 (by omega) (by omega), c4]; exact h2
    · rw [gA_pA, if_pos ⟨rfl, rfl⟩, comeS_0]
    · rw [far x (by omega) (by omega), c1]; exact h4 x hx
    · rw [far (7 + x) (by omega) (by omega), c2]; exact (h5 x hx).1
    · rw [far (39 + x) (by omega) (by omega), c3]; exact (h5 x hx).2
    · rw [comeS_0] at hx
      obtain ⟨e1, e2, e3, e4⟩ := comeS_p m k e u a x
      rw [e1, e2, e3, e4]
      by_cases q : x = m.1 0 0
      · simp only [q, if_true]
        refine ⟨?_, ?_, ?_, ?_⟩
        · rw [gA_pA, if_neg (by omega), gA_pA, if_neg (by omega), gA_pA, if_neg (by omega), gA_pA, if_neg (by omega), gA_pA, if_pos ⟨rfl, by omega⟩]
        · rw [gA_pA, if_neg (by omega), gA_pA, if_neg (by omega), gA_pA, if_neg (by omega), gA_pA, if_pos ⟨rfl, by omega⟩]
        · rw [gA_pA, if_neg (by omega), gA_pA, if_neg (by omega), gA_pA, if_pos ⟨rfl, by omega⟩]
        · rw [gA_pA, if_neg (by omega), gA_pA, if_pos ⟨rfl, by omega⟩]
      · simp only [q, if_false]
        obtain ⟨x1, x2, x3, x4⟩ := h6 x (by omega)
        refine ⟨?_, ?_, ?_, ?_⟩ <;> rw [gA_pA, if_neg (by omega), gA_pA, if_neg (by omega), gA_pA, if_neg (by omega), gA_pA, if_neg (by omega), gA_pA, if_neg (by omega)] <;> assumption
theorem p_person (hd : d = b + 53) (hC : CM s (b + 1) 0 m) (hM : MM s d 0 m) (hB : BM m) (a1 a2 a3 a4 : Int32) : PO b d s (f_X3_person b a1 a2 a3 a4) (f_X4_person d a1 a2 a3 a4) := by
  have h8 := hB.1
  have c1 := f_X3_person.eq_1 b a1 a2 a3 a4 s
  rw [c_isKind a1, cp_s, c_isWithin a2 9 (n := 9) (by decide), cp_s, c_isWithin a3 99 (n := 99) (by decide), cp_s, c_isCell, cp_s, hC.2.2.1] at c1
  have r1 : ∀ t, f_X4_person d a1 a2 a3 a4 t = _ := fun t => by unfold f_X4_person; rw [r_inN a1 5 (n := 5) (by decide), cp_s, r_inN a2 9 (n := 9) (by decide), cp_s, r_inN a3 99 (n := 99) (by decide), cp_s, r_isCell, cp_s]
  cases h : wp a1 6
  · exact PO.no (x := -1) hC hM hB (by rw [c1, h]; rfl) (by rw [r1, show (5 + 1 : Nat) = 6 from rfl, h]; rfl)
  cases h2 : wp a2 (9 + 1)
  · exact PO.no (x := -1) hC hM hB (by rw [c1, h, h2]; rfl) (by rw [r1, show (5 + 1 : Nat) = 6 from rfl, h, h2]; rfl)
  cases h3 : wp a3 (99 + 1)
  · exact PO.no (x := -1) hC hM hB (by rw [c1, h, h2, h3]; rfl) (by rw [r1, show (5 + 1 : Nat) = 6 from rfl, h, h2, h3]; rfl)
  cases h4 : wp a4 32
  · exact PO.no (x := -1) hC hM hB (by rw [c1, h, h2, h3, h4]; rfl) (by rw [r1, show (5 + 1 : Nat) = 6 from rfl, h, h2, h3, h4]; rfl)
  obtain ⟨k, hk, rfl⟩ := wp_of h (by omega)
  obtain ⟨e, he, rfl⟩ := wp_of h2 (by omega)
  obtain ⟨u, hu, rfl⟩ := wp_of h3 (by omega)
  obtain ⟨a, ha, rfl⟩ := wp_of h4 (by omega)
  have r2 : ∀ t, MM t d 0 m → f_X4_person d (nI k) (nI e) (nI u) (nI a) t = if nI (m.1 0 0) = (8 : Int32) then some ((-2 : Int32), t) else cb (f_X4_comes d (nI k) (nI e) (nI u) (nI a) t) fun x6 s5 => some (x6, s5) := by
    intro t hM1
    rw [r1, show (5 + 1 : Nat) = 6 from rfl, h, h2, h3, h4, if_neg (by decide), if_neg (by decide), if_neg (by decide), if_neg (by decide), hM1.1.2.2.1]
  rw [h, h2, h3, h4, if_neg (by decide), if_neg (by decide), if_neg (by decide), if_neg (by decide)] at c1
  have z8 : (nI (m.1 0 0) = (8 : Int32)) ↔ m.1 0 0 = 8 := nI_eq (b := 8) (by omega) (by omega)
  by_cases q : m.1 0 0 = 8
  · refine PO.no (x := -2) hC hM hB ?_ ?_
    · rw [c1, if_neg (by rw [li_8]; exact nI_nlt (by omega) (by omega))]
    · rw [r2 s hM, if_pos (z8.mpr q)]
  · obtain ⟨s1, e1, f1, g1⟩ := c_comes hC (show m.1 0 0 < 8 by omega) k e u a
    rw [if_pos (by rw [li_8]; exact nI_lt (by omega) (by omega)), e1, cb_s] at c1
    refine PO.mk hd hM (hB.come (by omega) (by omega) (by omega) (by omega) (by omega)) c1 (f1.wk (fun k q => by unfold wM at q; unfold wC; omega)) g1 (fun hM1 => ?_)
    obtain ⟨s2, e2, f2, g2⟩ := r_comes hM1 (show m.1 0 0 < 8 by omega) k e u a
    rw [r2 _ hM1, if_neg (fun z => q (z8.mp z)), e2, cb_s]
    exact ⟨_, rfl, f2.wk (fun k q => Or.inl q), g2⟩
end PAIRS3
