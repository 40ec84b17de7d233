/-! pairs: people and cells -/
section PAIRS2
variable {s : St} {b d mu : Nat} {m : MS}
/-- one number of one person is put, in the reference -/
theorem MM.pP (h : MM s b mu m) (k : Nat) (hk : k < 4) {p v : Nat} : MM (pA s (b + 1) (71 + k + 4 * p) (nI v)) b mu (setR m (5 + k) (upN (m.1 (5 + k)) p v)) := by
  obtain ⟨⟨h1, h2, h3, h4, h5, h6⟩, h7⟩ := h
  have e : ∀ j, j < 4 → ∀ x, gA (pA s (b + 1) (71 + k + 4 * p) (nI v)) (b + 1) (71 + j + 4 * x) = if x = p ∧ j = k then nI v else gA s (b + 1) (71 + j + 4 * x) := by
    intro j hj x
    rw [gA_pA]
    by_cases q : x = p ∧ j = k
    · rw [if_pos q, if_pos ⟨rfl, by omega⟩]
    · rw [if_neg q, if_neg (by omega)]
  have e2 : ∀ j, j < 4 → ∀ x, (setR m (5 + k) (upN (m.1 (5 + k)) p v)).1 (5 + j) x = if x = p ∧ j = k then v else m.1 (5 + j) x := by
    intro j hj x
    by_cases q : j = k
    · subst q
      rw [setR_at]
      unfold upN
      by_cases z : x = p <;> simp [z]
    · rw [setR_ne _ _ (by omega), if_neg (fun z => q z.2)]
  have e0 : ∀ j, j < 5 → (setR m (5 + k) (upN (m.1 (5 + k)) p v)).1 j = m.1 j := fun j hj => setR_ne _ _ (by omega)
  refine ⟨⟨?_, ?_, ?_, fun x hx => ?_, fun x hx => ⟨?_, ?_⟩, fun x hx => ?_⟩, h7⟩
  · rw [gA_pA, if_neg (by omega)]; exact h1
  · rw [gA_pA, if_neg (by omega)]; exact h2
  · rw [gA_pA, if_neg (by omega), e0 0 (by omega)]; exact h3
  · rw [gA_pA, if_neg (by omega), e0 1 (by omega)]; exact h4 x hx
  · rw [gA_pA, if_neg (by omega), e0 2 (by omega)]; exact (h5 x hx).1
  · rw [gA_pA, if_neg (by omega), e0 3 (by omega)]; exact (h5 x hx).2
  · rw [e0 0 (by omega)] at hx
    obtain ⟨x1, x2, x3, x4⟩ := h6 x hx
    have y0 := e 0 (by omega) x
    have y1 := e 1 (by omega) x
    have y2 := e 2 (by omega) x
    have y3 := e 3 (by omega) x
    have z0 := e2 0 (by omega) x
    have z1 := e2 1 (by omega) x
    have z2 := e2 2 (by omega) x
    have z3 := e2 3 (by omega) x
    refine ⟨y0.trans ?_, y1.trans ?_, y2.trans ?_, y3.trans ?_⟩
    · rw [show (5 : Nat) = 5 + 0 from rfl, z0]; split
      · rfl
      · exact x1
    · rw [show (6 : Nat) = 5 + 1 from rfl, z1]; split
      · rfl
      · exact x2
    · rw [show (7 : Nat) = 5 + 2 from rfl, z2]; split
      · rfl
      · exact x3
    · rw [show (8 : Nat) = 5 + 3 from rfl, z3]; split
      · rfl
      · exact x4
/-- the same in the other -/
theorem CM.pP (h : CM s b mu m) (k : Nat) (hk : k < 4) {p v : Nat} : CM (pA s (b + (5 + k)) p (nI v)) b mu (setR m (5 + k) (upN (m.1 (5 + k)) p v)) := by
  obtain ⟨h1, h2, h3, h4, h5, h6, h7⟩ := h
  have e : ∀ j, j < 4 → ∀ x, gA (pA s (b + (5 + k)) p (nI v)) (b + (5 + j)) x = if x = p ∧ j = k then nI v else gA s (b + (5 + j)) x := by
    intro j hj x
    rw [gA_pA]
    by_cases q : x = p ∧ j = k
    · rw [if_pos q, if_pos ⟨by omega, q.1⟩]
    · rw [if_neg q, if_neg (by omega)]
  have e2 : ∀ j, j < 4 → ∀ x, (setR m (5 + k) (upN (m.1 (5 + k)) p v)).1 (5 + j) x = if x = p ∧ j = k then v else m.1 (5 + j) x := by
    intro j hj x
    by_cases q : j = k
    · subst q
      rw [setR_at]
      unfold upN
      by_cases z : x = p <;> simp [z]
    · rw [setR_ne _ _ (by omega), if_neg (fun z => q z.2)]
  have e0 : ∀ j, j < 5 → (setR m (5 + k) (upN (m.1 (5 + k)) p v)).1 j = m.1 j := fun j hj => setR_ne _ _ (by omega)
  refine ⟨h1, h2, ?_, h4, fun x hx => ?_, fun x hx => ⟨?_, ?_, ?_⟩, fun x hx => ?_⟩
  · rw [e0 0 (by omega)]; exact h3
  · rw [gA_pA, if_neg (by omega), e0 1 (by omega)]; exact h5 x hx
  · rw [gA_pA, if_neg (by omega), e0 2 (by omega)]; exact (h6 x hx).1
  · rw [gA_pA, if_neg (by omega), e0 3 (by omega)]; exact (h6 x hx).2.1
  · rw [gA_pA, if_neg (by omega), e0 2 (by omega)]; exact (h6 x hx).2.2
  · rw [e0 0 (by omega)] at hx
    obtain ⟨x1, x2, x3, x4⟩ := h7 x hx
    have y0 := e 0 (by omega) x
    have y1 := e 1 (by omega) x
    have y2 := e 2 (by omega) x
    have y3 := e 3 (by omega) x
    have z0 := e2 0 (by omega) x
    have z1 := e2 1 (by omega) x
    have z2 := e2 2 (by omega) x
    have z3 := e2 3 (by omega) x
    refine ⟨y0.trans ?_, y1.trans ?_, y2.trans ?_, y3.trans ?_⟩
    · rw [show (setR m (5 + k) (upN (m.1 (5 + k)) p v)).1 5 x = _ from z0]; split
      · rfl
      · exact x1
    · rw [show (setR m (5 + k) (upN (m.1 (5 + k)) p v)).1 6 x = _ from z1]; split
      · rfl
      · exact x2
    · rw [show (setR m (5 + k) (upN (m.1 (5 + k)) p v)).1 7 x = _ from z2]; split
      · rfl
      · exact x3
    · rw [show (setR m (5 + k) (upN (m.1 (5 + k)) p v)).1 8 x = _ from z3]; split
      · rfl
      · exact x4
def mostP (k : Nat) : Nat := if k = 0 then 5 else if k = 1 then 9 else if k = 2 then 99 else 31
theorem BM.setP (hb : BM m) (k : Nat) (hk : k < 4) {p v : Nat} (hv : v ≤ mostP k) : BM (setR m (5 + k) (upN (m.1 (5 + k)) p v)) := by
  have e0 : ∀ j, j < 5 → (setR m (5 + k) (upN (m.1 (5 + k)) p v)).1 j = m.1 j := fun j hj => setR_ne _ _ (by omega)
  have e2 : ∀ j, j < 4 → ∀ x, (setR m (5 + k) (upN (m.1 (5 + k)) p v)).1 (5 + j) x = if x = p ∧ j = k then v else m.1 (5 + j) x := by
    intro j hj x
    by_cases q : j = k
    · subst q
      rw [setR_at]
      unfold upN
      by_cases z : x = p <;> simp [z]
    · rw [setR_ne _ _ (by omega), if_neg (fun z => q z.2)]
  obtain ⟨h0, h1, h2, h3, h4, h5⟩ := hb
  refine ⟨by rw [e0 0 (by omega)]; exact h0, by rw [e0 1 (by omega)]; exact h1, by rw [e0 1 (by omega)]; exact h2, by rw [e0 1 (by omega)]; exact h3, by rw [e0 2 (by omega), e0 3 (by omega)]; exact h4, fun x hx => ?_⟩
  rw [e0 0 (by omega)] at hx
  obtain ⟨x1, x2, x3, x4⟩ := h5 x hx
  refine ⟨(show (setR m (5 + k) (upN (m.1 (5 + k)) p v)).1 5 x = _ from e2 0 (by omega) x) ▸ ?_, (show (setR m (5 + k) (upN (m.1 (5 + k)) p v)).1 6 x = _ from e2 1 (by omega) x) ▸ ?_, (show (setR m (5 + k) (upN (m.1 (5 + k)) p v)).1 7 x = _ from e2 2 (by omega) x) ▸ ?_, (show (setR m (5 + k) (upN (m.1 (5 + k)) p v)).1 8 x = _ from e2 3 (by omega) x) ▸ ?_⟩
  · split
    · rename_i z; rw [← z.2] at hv; exact hv
    · exact x1
  · split
    · rename_i z; rw [← z.2] at hv; exact hv
    · exact x2
  · split
    · rename_i z; rw [← z.2] at hv; exact hv
    · exact x3
  · split
    · rename_i z; rw [← z.2] at hv; exact hv
    · exact x4
theorem p_sure (hd : d = b + 53) (hC : CM s (b + 1) 0 m) (hM : MM s d 0 m) (hB : BM m) (a1 a2 : Int32) : PO b d s (f_X3_sure b a1 a2) (f_X4_sure d a1 a2) := by
  have h8 := hB.1
  have c1 := f_X3_sure.eq_1 b a1 a2 s
  rw [c_isPerson hC h8, cp_s, c_isWithin a2 99 (n := 99) (by decide), cp_s] at c1
  have r1 : ∀ t, MM t d 0 m → f_X4_sure d a1 a2 t = _ := fun t h => by unfold f_X4_sure; rw [r_isPerson h h8, cp_s, r_inN a2 99 (n := 99) (by decide), cp_s]
  cases h : wp a1 (m.1 0 0)
  · exact PO.no (x := -1) hC hM hB (by rw [c1, h]; rfl) (by rw [r1 s hM, h]; rfl)
  · obtain ⟨p, hp, rfl⟩ := wp_of h (by omega)
    cases h2 : wp a2 (99 + 1)
    · exact PO.no (x := -1) hC hM hB (by rw [c1, h, h2]; rfl) (by rw [r1 s hM, h, h2]; rfl)
    · obtain ⟨v, hv, rfl⟩ := wp_of h2 (by omega)
      rw [h, h2, if_neg (by decide), if_neg (by decide), gd_n (show p < 8 by omega) (by omega), ix_n (by omega), bn_e, gd_n (show p < 8 by omega) (by omega), bn_e, (hC.2.2.2.2.2.2 p hp).2.2.1] at c1
      refine PO.mk hd hM (hB.setP 2 (by omega) (p := p) (v := v) (by show v ≤ 99; omega)) c1 (Fr.pA (by unfold wC; omega)) (hC.pP 2 (by omega)) (fun hM1 => ?_)
      rw [r1 _ hM1, h, h2, if_neg (by decide), if_neg (by decide), r_g2 hM1 h8 hp, cp_s, r_p2 (by omega), cw_s]
      exact ⟨_, rfl, Fr.pA (Or.inl rfl), hM1.pP 2 (by omega)⟩
theorem r_p0 {p : Nat} (hp : p < 8) (x : Int32) : f_X4_puts b (nI p) (0 : Int32) x s = some (pA s (b + 1) (71 + 0 + 4 * p) x) := by
  rw [li_0, r_puts hp 0 (by omega), show 71 + 4 * p + 0 = 71 + 0 + 4 * p by omega]
theorem r_p1 {p : Nat} (hp : p < 8) (x : Int32) : f_X4_puts b (nI p) (1 : Int32) x s = some (pA s (b + 1) (71 + 1 + 4 * p) x) := by
  rw [li_1, r_puts hp 1 (by omega), show 71 + 4 * p + 1 = 71 + 1 + 4 * p by omega]
theorem r_p2' {p : Nat} (hp : p < 8) (x : Int32) : f_X4_puts b (nI p) (2 : Int32) x s = some (pA s (b + 1) (71 + 2 + 4 * p) x) := by
  rw [li_2, r_puts hp 2 (by omega), show 71 + 4 * p + 2 = 71 + 2 + 4 * p by omega]
theorem r_p3 {p : Nat} (hp : p < 8) (x : Int32) : f_X4_puts b (nI p) (3 : Int32) x s = some (pA s (b + 1) (71 + 3 + 4 * p) x) := by
  rw [li_3, r_puts hp 3 (by omega), show 71 + 4 * p + 3 = 71 + 3 + 4 * p by omega]
theorem p_bring (hd : d = b + 53) (hC : CM s (b + 1) 0 m) (hM : MM s d 0 m) (hB : BM m) (a1 a2 : Int32) : PO b d s (f_X3_bring b a1 a2) (f_X4_bring d a1 a2) := by
  have h8 := hB.1
  have c1 := f_X3_bring.eq_1 b a1 a2 s
  rw [c_isPerson hC h8, cp_s, c_isCell a2, cp_s] at c1
  have r1 : ∀ t, MM t d 0 m → f_X4_bring d a1 a2 t = _ := fun t h => by unfold f_X4_bring; rw [r_isPerson h h8, cp_s, r_isCell a2, cp_s]
  cases h : wp a1 (m.1 0 0)
  · exact PO.no (x := -1) hC hM hB (by rw [c1, h]; rfl) (by rw [r1 s hM, h]; rfl)
  · obtain ⟨p, hp, rfl⟩ := wp_of h (by omega)
    cases h2 : wp a2 32
    · exact PO.no (x := -1) hC hM hB (by rw [c1, h, h2]; rfl) (by rw [r1 s hM, h, h2]; rfl)
    · obtain ⟨v, hv, rfl⟩ := wp_of h2 (by omega)
      rw [h, h2, if_neg (by decide), if_neg (by decide), gd_n (show p < 8 by omega) (by omega), ix_n (by omega), bn_e, gd_n (show p < 8 by omega) (by omega), bn_e, (hC.2.2.2.2.2.2 p hp).2.2.2] at c1
      refine PO.mk hd hM (hB.setP 3 (by omega) (p := p) (v := v) (by show v ≤ 31; omega)) c1 (Fr.pA (by unfold wC; omega)) (hC.pP 3 (by omega)) (fun hM1 => ?_)
      rw [r1 _ hM1, h, h2, if_neg (by decide), if_neg (by decide), r_g3 hM1 h8 hp, cp_s, r_p3 (by omega), cw_s]
      exact ⟨_, rfl, Fr.pA (Or.inl rfl), hM1.pP 3 (by omega)⟩
theorem p_mind (hd : d = b + 53) (hC : CM s (b + 1) 0 m) (hM : MM s d 0 m) (hB : BM m) (a1 a2 a3 : Int32) : PO b d s (f_X3_mind b a1 a2 a3) (f_X4_mind d a1 a2 a3) := by
  have h8 := hB.1
  have c1 := f_X3_mind.eq_1 b a1 a2 a3 s
  rw [c_isPerson hC h8, cp_s, c_isKind a2, cp_s, c_isWithin a3 9 (n := 9) (by decide), cp_s] at c1
  have r1 : ∀ t, MM t d 0 m → f_X4_mind d a1 a2 a3 t = _ := fun t h => by unfold f_X4_mind; rw [r_isPerson h h8, cp_s, r_inN a2 5 (n := 5) (by decide), cp_s, r_inN a3 9 (n := 9) (by decide), cp_s]
  cases h : wp a1 (m.1 0 0)
  · exact PO.no (x := -1) hC hM hB (by rw [c1, h]; rfl) (by rw [r1 s hM, h]; rfl)
  · obtain ⟨p, hp, rfl⟩ := wp_of h (by omega)
    cases h2 : wp a2 6
    · exact PO.no (x := -1) hC hM hB (by rw [c1, h, h2]; rfl) (by rw [r1 s hM, h, show (5 + 1 : Nat) = 6 from rfl, h2]; rfl)
    · cases h3 : wp a3 (9 + 1)
      · exact PO.no (x := -1) hC hM hB (by rw [c1, h, h2, h3]; rfl) (by rw [r1 s hM, h, show (5 + 1 : Nat) = 6 from rfl, h2, h3]; rfl)
      · obtain ⟨v, hv, rfl⟩ := wp_of h2 (by omega)
        obtain ⟨w, hw, rfl⟩ := wp_of h3 (by omega)
        rw [h, h2, h3, if_neg (by decide), if_neg (by decide), if_neg (by decide), gd_n (show p < 8 by omega) (by omega), ix_n (by omega), bn_e, gd_n (show p < 8 by omega) (by omega), bn_e, gd_n (show p < 8 by omega) (by omega), bn_e, (hC.2.2.2.2.2.2 p hp).1] at c1
        refine PO.mk hd hM ((hB.setP 0 (by omega) (p := p) (v := v) (by show v ≤ 5; omega)).setP 1 (by omega) (p := p) (v := w) (by show w ≤ 9; omega)) c1 ((Fr.pA (by unfold wC; omega)).tr (Fr.pA (by unfold wC; omega))) ((hC.pP 0 (by omega)).pP 1 (by omega)) (fun hM1 => ?_)
        rw [r1 _ hM1, h, show (5 + 1 : Nat) = 6 from rfl, h2, h3, if_neg (by decide), if_neg (by decide), if_neg (by decide), r_g0 hM1 h8 hp, cp_s, r_p0 (by omega), cw_s, r_p1 (by omega), cw_s]
        exact ⟨_, rfl, (Fr.pA (Or.inl rfl)).tr (Fr.pA (Or.inl rfl)), (hM1.pP 0 (by omega)).pP 1 (by omega)⟩
theorem p_water (hd : d = b + 53) (hC : CM s (b + 1) 0 m) (hM : MM s d 0 m) (hB : BM m) (a1 a2 : Int32) : PO b d s (f_X3_water b a1 a2) (f_X4_water d a1 a2) := by
  have h8 := hB.1
  have c1 := f_X3_water.eq_1 b a1 a2 s
  rw [c_isCell a1, cp_s, c_isWithin a2 99 (n := 99) (by decide), cp_s] at c1
  have r1 : ∀ t, f_X4_water d a1 a2 t = _ := fun t => by unfold f_X4_water; rw [r_isCell a1, cp_s, r_inN a2 99 (n := 99) (by decide), cp_s]
  cases h : wp a1 32
  · exact PO.no (x := -1) hC hM hB (by rw [c1, h]; rfl) (by rw [r1, h]; rfl)
  · obtain ⟨c, hc, rfl⟩ := wp_of h (by omega)
    cases h2 : wp a2 (99 + 1)
    · exact PO.no (x := -1) hC hM hB (by rw [c1, h, h2]; rfl) (by rw [r1, h, h2]; rfl)
    · obtain ⟨v, hv, rfl⟩ := wp_of h2 (by omega)
      rw [h, h2, if_neg (by decide), if_neg (by decide), gd_n hc (by omega), ix_n (by omega), bn_e, gd_n hc (by omega), bn_e, (hC.2.2.2.2.2.1 c hc).2.1] at c1
      refine PO.mk hd hM (hB.setW (f := upN (m.1 3) c v) (fun x hx => ?_)) c1 (Fr.pA (by unfold wC; omega)) (hC.pW hc) (fun hM1 => ?_)
      · have := (hB.2.2.2.2.1 x hx).2
        unfold upN; split <;> omega
      · rw [r1, h, h2, if_neg (by decide), if_neg (by decide), show (39 : Int32) + nI c = nI (39 + c) from nI_add 39 c, gd_n (show 39 + c < 103 by omega) (by omega), ix_n (by omega), bn_e, gd_n (show 39 + c < 103 by omega) (by omega), bn_e, (hM1.1.2.2.2.2.1 c hc).2]
        exact ⟨_, rfl, Fr.pA (Or.inl rfl), hM1.pW h8 hc⟩
theorem p_seed (hd : d = b + 53) (hC : CM s (b + 1) 0 m) (hM : MM s d 0 m) (hB : BM m) (a1 : Int32) : PO b d s (f_X3_seed b a1) (f_X4_seed d a1) := by
  have c1 : f_X3_seed b a1 s = some (m.2.2, pF s (b + 1) 2 a1) := by unfold f_X3_seed; rw [bn_e, bn_e, hC.2.1]
  refine PO.mk hd hM (m' := (m.1, m.2.1, a1)) hB c1 (Fr.pF (by unfold wC; omega)) ?_ (fun hM1 => ?_)
  · obtain ⟨h1, h2, h3, h4, h5, h6, h7⟩ := hC
    refine ⟨?_, ?_, ?_, ?_, h5, h6, h7⟩
    · rw [gF_pF, if_neg (by omega)]; exact h1
    · rw [gF_pF, if_pos ⟨rfl, rfl⟩]
    · rw [gF_pF, if_neg (by omega)]; exact h3
    · rw [gF_pF, if_neg (by omega)]; exact h4
  · have e : f_X4_seed d a1 (pF s (b + 1) 2 a1) = some (m.2.2, pA (pF s (b + 1) 2 a1) (d + 1) 6 a1) := by unfold f_X4_seed; rw [bn_e, bn_e, hM1.1.2.1]
    refine ⟨_, e, Fr.pA (Or.inl rfl), ?_⟩
    obtain ⟨⟨h1, h2, h3, h4, h5, h6⟩, h7⟩ := hM1
    refine ⟨⟨?_, ?_, ?_, fun x hx => ?_, fun x hx => ⟨?_, ?_⟩, fun x hx => ?_⟩, h7⟩
    · rw [gA_pA, if_neg (by omega)]; exact h1
    · rw [gA_pA, if_pos ⟨rfl, rfl⟩]
    · rw [gA_pA, if_neg (by omega)]; exact h3
    · rw [gA_pA, if_neg (by omega)]; exact h4 x hx
    · rw [gA_pA, if_neg (by omega)]; exact (h5 x hx).1
    · rw [gA_pA, if_neg (by omega)]; exact (h5 x hx).2
    · obtain ⟨x1, x2, x3, x4⟩ := h6 x hx
      refine ⟨?_, ?_, ?_, ?_⟩ <;> rw [gA_pA, if_neg (by omega)] <;> assumption
theorem p_loses (hC : CM s (b + 1) 0 m) (hM : MM s d 0 m) (hB : BM m) (a1 : Int32) : PP s (f_X3_loses b a1) (f_X4_loses d a1) := by
  have h8 := hB.1
  unfold PP f_X3_loses f_X4_loses
  rw [c_isPerson hC h8, r_isPerson hM h8, cp_s, cp_s]
  cases h : wp a1 (m.1 0 0)
  · exact ⟨-1, rfl, rfl⟩
  · obtain ⟨p, hp, rfl⟩ := wp_of h (by omega)
    rw [if_neg bt_ne, if_neg bt_ne, c_losing hC hB hp, r_losesOf hM hB hp, cp_s]
    exact ⟨_, rfl, rfl⟩
theorem p_lowest (hC : CM s (b + 1) 0 m) (hM : MM s d 0 m) (hB : BM m) (a1 : Int32) : PP s (f_X3_lowest b a1) (f_X4_lowest d a1) := by
  unfold PP f_X3_lowest f_X4_lowest
  rw [c_isCell, r_isCell, cp_s, cp_s]
  cases h : wp a1 32
  · exact ⟨-1, rfl, rfl⟩
  · obtain ⟨c, hc, rfl⟩ := wp_of h (by omega)
    rw [if_neg bt_ne, if_neg bt_ne, gd_n hc (by omega), ix_n (by omega), (hC.2.2.2.2.2.1 c hc).2.2, r_lowestOf hM hB hc, cp_s]
    unfold lowI
    have := lowS_lt (h := m.1 2) hc
    by_cases q : lowS (m.1 2) c = c
    · rw [if_pos q, if_pos q, if_neg (by decide)]; exact ⟨_, rfl, rfl⟩
    · rw [if_neg q, if_neg q, if_pos (nI_pos' (by omega)), gd_n hc (by omega)]; exact ⟨_, rfl, rfl⟩
end PAIRS2
