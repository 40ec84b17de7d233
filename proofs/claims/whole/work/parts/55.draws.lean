/-! years by draws -/
theorem lot_ex : ∃ lo : Int32 → Nat, ∀ z : Int32, ((z).toUInt32 >>> (((16 : Int32)).toUInt32 &&& Int32.toUInt32 31)).toInt32 = nI (lo z) ∧ lo z < 65536 := by
  refine ⟨fun z => z.toBitVec.toNat / 65536, fun z => ⟨?_, ?_⟩⟩
  · obtain ⟨n, hn, rfl⟩ : ∃ n, n < 2 ^ 32 ∧ z = nI n := ⟨z.toBitVec.toNat, z.toBitVec.isLt, Int32.toBitVec_inj.mp (by show _ = BitVec.ofNat 32 _; simp)⟩
    rw [pk_ushrN hn 16 16 (by decide +kernel)]
    dsimp only
    rw [pk_tn hn]
  · have := z.toBitVec.isLt
    dsimp only
    omega
theorem next_ex : ∃ nx : Int32 → Int32, ∀ z : Int32, z * (1103515245 : Int32) + (12345 : Int32) = nx z := ⟨fun z => z * (1103515245 : Int32) + (12345 : Int32), fun _ => rfl⟩
/-- what the draws do before the year -/
def drawS (nx : Int32 → Int32) (lo : Int32 → Nat) (m : MS) : MS := if m.1 0 0 = 0 then m else (if m.1 1 3 ≤ lo (nx (nx m.2.2)) % 100 then m.1 else (setR m 7 (upN (m.1 7) (lo (nx m.2.2) % m.1 0 0) (m.1 7 (lo (nx m.2.2) % m.1 0 0) / 2))).1, m.2.1, nx (nx m.2.2))
def byDraws (nx : Int32 → Int32) (lo : Int32 → Nat) (mu : Nat) (m : MS) : MS := yearS mu (drawS nx lo m)
theorem drawS_0 (nx : Int32 → Int32) (lo : Int32 → Nat) (m : MS) : (drawS nx lo m).1 0 0 = m.1 0 0 := by
  unfold drawS
  split
  · rfl
  · dsimp only
    split <;> simp [setR]
theorem byDraws_0 (nx : Int32 → Int32) (lo : Int32 → Nat) (mu : Nat) (m : MS) : (byDraws nx lo mu m).1 0 0 = m.1 0 0 := drawS_0 nx lo m
section DRAWS
variable {s : St} {b d mu : Nat} {m : MS} {nx : Int32 → Int32} {lo : Int32 → Nat}
theorem BM.draw (hB : BM m) : BM (drawS nx lo m) := by
  unfold drawS
  split
  · exact hB
  · rename_i q
    by_cases z : m.1 1 3 ≤ lo (nx (nx m.2.2)) % 100
    · rw [if_pos z]; exact hB
    · rw [if_neg z]
      have := hB.setS (f := upN (m.1 7) (lo (nx m.2.2) % m.1 0 0) (m.1 7 (lo (nx m.2.2) % m.1 0 0) / 2)) (fun p hp => by
        unfold upN
        have h1 := (hB.2.2.2.2.2 p hp).2.2.1
        have h2 := (hB.2.2.2.2.2 (lo (nx m.2.2) % m.1 0 0) (Nat.mod_lt _ (by omega))).2.2.1
        split <;> omega)
      exact this
theorem BM.byDraw (hB : BM m) (nx : Int32 → Int32) (lo : Int32 → Nat) (mu : Nat) : BM (byDraws nx lo mu m) := hB.draw.year mu
theorem CM.pZ (h : CM s b mu m) (z : Int32) : CM (pF s b 2 z) b mu (m.1, m.2.1, z) := by
  obtain ⟨h1, h2, h3, h4, h5, h6, h7⟩ := h
  refine ⟨?_, ?_, ?_, ?_, h5, h6, h7⟩
  · rw [gF_pF, if_neg (by omega)]; exact h1
  · rw [gF_pF, if_pos ⟨rfl, rfl⟩]
  · rw [gF_pF, if_neg (by omega)]; exact h3
  · rw [gF_pF, if_neg (by omega)]; exact h4
theorem MM.pZ (h : MM s d mu m) (h8 : m.1 0 0 ≤ 8) (z : Int32) : MM (pA s (d + 1) 6 z) d mu (m.1, m.2.1, z) := by
  obtain ⟨⟨h1, h2, h3, h4, h5, h6⟩, h7⟩ := h
  refine ⟨⟨?_, ?_, ?_, fun x hx => ?_, fun x hx => ⟨?_, ?_⟩, fun x hx => ?_⟩, h7⟩
  · rw [gA_pA, if_neg (by omega)]; exact h1
  · rw [gA_pA, if_pos ⟨rfl, rfl⟩]
  · rw [gA_pA, if_neg (by omega)]; exact h3
  · rw [gA_pA, if_neg (by omega)]; exact h4 x hx
  · rw [gA_pA, if_neg (by omega)]; exact (h5 x hx).1
  · rw [gA_pA, if_neg (by omega)]; exact (h5 x hx).2
  · obtain ⟨x1, x2, x3, x4⟩ := h6 x hx
    refine ⟨?_, ?_, ?_, ?_⟩ <;> rw [gA_pA, if_neg (by omega)] <;> assumption
theorem c_draw (hnx : ∀ z : Int32, z * (1103515245 : Int32) + (12345 : Int32) = nx z) (hlo : ∀ z : Int32, ((z).toUInt32 >>> (((16 : Int32)).toUInt32 &&& Int32.toUInt32 31)).toInt32 = nI (lo z) ∧ lo z < 65536) (h : CM s b mu m) : f_X1_draw b s = some (nI (lo (nx m.2.2)), pF s b 2 (nx m.2.2)) := by
  unfold f_X1_draw
  rw [bn_e, h.2.1, gF_pF, if_pos ⟨rfl, rfl⟩, hnx, (hlo _).1]
theorem r_drawn (hnx : ∀ z : Int32, z * (1103515245 : Int32) + (12345 : Int32) = nx z) (hlo : ∀ z : Int32, ((z).toUInt32 >>> (((16 : Int32)).toUInt32 &&& Int32.toUInt32 31)).toInt32 = nI (lo z) ∧ lo z < 65536) (h : MM s d mu m) : f_X4_drawn d s = some (nI (lo (nx m.2.2)), pA s (d + 1) 6 (nx m.2.2)) := by
  unfold f_X4_drawn
  rw [bn_e, h.1.2.1, gA_pA, if_pos ⟨rfl, rfl⟩, hnx, (hlo _).1]
theorem c_byDraws (hnx : ∀ z : Int32, z * (1103515245 : Int32) + (12345 : Int32) = nx z) (hlo : ∀ z : Int32, ((z).toUInt32 >>> (((16 : Int32)).toUInt32 &&& Int32.toUInt32 31)).toInt32 = nI (lo z) ∧ lo z < 65536) (h : CM s b mu m) (hB : BM m) (hmu : mu < 256) : ∃ s', f_X1_passYearByDraws b s = some s' ∧ Fr (wM b) s s' ∧ CM s' b mu (byDraws nx lo mu m) := by
  have h8 := hB.1
  have bd := hB.draw (nx := nx) (lo := lo)
  unfold f_X1_passYearByDraws byDraws
  rw [bn_e]
  dsimp only
  have z0 : (nI (m.1 0 0) ≤ 0) ↔ m.1 0 0 = 0 := by rw [← nI_0, nI_leI (by omega) (by omega)]; omega
  have z1 : (nI (m.1 0 0) = 0) ↔ m.1 0 0 = 0 := by rw [← nI_0]; exact nI_eq (by omega) (by omega)
  by_cases q : m.1 0 0 = 0
  · obtain ⟨s1, e, f, g⟩ := c_passYear h hB hmu
    rw [h.2.2.1, if_pos (z0.mpr q), e, cw_s]
    refine ⟨s1, rfl, f, ?_⟩
    have : drawS nx lo m = m := by unfold drawS; rw [if_pos q]
    rw [this]; exact g
  · rw [h.2.2.1, if_neg (fun w => q (z0.mp w)), c_draw hnx hlo h, cb_s]
    have h1 := h.pZ (nx m.2.2)
    have n1 : gF (pF s b 2 (nx m.2.2)) b 6 = nI (m.1 0 0) := h1.2.2.1
    have hw : lo (nx m.2.2) % m.1 0 0 < m.1 0 0 := Nat.mod_lt _ (by omega)
    have hl := (hlo (nx m.2.2)).2
    have hl2 := (hlo (nx (nx m.2.2))).2
    rw [n1, if_neg (fun w => q (z1.mp w)), pk_rem (by omega) (by omega) (by omega), bn_e, c_draw hnx hlo h1, cb_s]
    have h2 := h1.pZ (nx (nx m.2.2))
    have l3 : gA (pF (pF s b 2 (nx m.2.2)) b 2 (nx (nx m.2.2))) (b + 1) 3 = nI (m.1 1 3) := h2.2.2.2.2.1 3 (by omega)
    have b3 := hB.2.2.2.1
    dsimp only
    rw [l3, show (100 : Int32) = nI 100 from rfl, pk_rem (by omega) (by omega) (by omega)]
    have hF : Fr (wM b) s (pF (pF s b 2 (nx m.2.2)) b 2 (nx (nx m.2.2))) := (Fr.pF (by unfold wM; omega)).tr (Fr.pF (by unfold wM; omega))
    by_cases w : m.1 1 3 ≤ lo (nx (nx m.2.2)) % 100
    · have ed : drawS nx lo m = (m.1, m.2.1, nx (nx m.2.2)) := by unfold drawS; rw [if_neg q, if_pos w]
      rw [ed] at bd ⊢
      obtain ⟨s1, e, f, g⟩ := c_passYear h2 bd hmu
      rw [if_pos ((nI_leI (by omega) (by omega)).mpr w), e, cw_s]
      exact ⟨s1, rfl, hF.tr f, g⟩
    · have ed : drawS nx lo m = ((setR m 7 (upN (m.1 7) (lo (nx m.2.2) % m.1 0 0) (m.1 7 (lo (nx m.2.2) % m.1 0 0) / 2))).1, m.2.1, nx (nx m.2.2)) := by unfold drawS; rw [if_neg q, if_neg w]
      rw [ed] at bd ⊢
      have b7 := (hB.2.2.2.2.2 _ hw).2.2.1
      have g7 : gA (pF (pF s b 2 (nx m.2.2)) b 2 (nx (nx m.2.2))) (b + 7) (lo (nx m.2.2) % m.1 0 0) = nI (m.1 7 (lo (nx m.2.2) % m.1 0 0)) := (h2.2.2.2.2.2.2 _ hw).2.2.1
      rw [if_neg (fun z => w ((nI_leI (by omega) (by omega)).mp z)), gd_n (show lo (nx m.2.2) % m.1 0 0 < 8 by omega) (by omega), gd_n (show lo (nx m.2.2) % m.1 0 0 < 8 by omega) (by omega), ix_n (by omega), bn_e, g7, n_half (by omega)]
      have h3 := h2.pS (p := lo (nx m.2.2) % m.1 0 0) (v := m.1 7 (lo (nx m.2.2) % m.1 0 0) / 2)
      obtain ⟨s1, e, f, g⟩ := c_passYear h3 bd hmu
      rw [e, cw_s]
      exact ⟨s1, rfl, (hF.tr (Fr.pA (by unfold wM; omega))).tr f, g⟩
theorem r_byDraws (hnx : ∀ z : Int32, z * (1103515245 : Int32) + (12345 : Int32) = nx z) (hlo : ∀ z : Int32, ((z).toUInt32 >>> (((16 : Int32)).toUInt32 &&& Int32.toUInt32 31)).toInt32 = nI (lo z) ∧ lo z < 65536) (h : MM s d mu m) (hB : BM m) (hmu : mu < 256) : ∃ s', f_X4_yearByDraws d s = some s' ∧ Fr (wR d) s s' ∧ MM s' d mu (byDraws nx lo mu m) := by
  have h8 := hB.1
  have bd := hB.draw (nx := nx) (lo := lo)
  unfold f_X4_yearByDraws byDraws
  rw [bn_e]
  dsimp only
  have z0 : (nI (m.1 0 0) ≤ 0) ↔ m.1 0 0 = 0 := by rw [← nI_0, nI_leI (by omega) (by omega)]; omega
  have z1 : (nI (m.1 0 0) = 0) ↔ m.1 0 0 = 0 := by rw [← nI_0]; exact nI_eq (by omega) (by omega)
  by_cases q : m.1 0 0 = 0
  · obtain ⟨s1, e, f, g⟩ := r_yearGoes h hB hmu
    rw [h.1.2.2.1, if_pos (z0.mpr q), e, cw_s]
    refine ⟨s1, rfl, f, ?_⟩
    have : drawS nx lo m = m := by unfold drawS; rw [if_pos q]
    rw [this]; exact g
  · rw [h.1.2.2.1, if_neg (fun w => q (z0.mp w)), r_drawn hnx hlo h, cb_s]
    have h1 := h.pZ h8 (nx m.2.2)
    have n1 : gA (pA s (d + 1) 6 (nx m.2.2)) (d + 1) 5 = nI (m.1 0 0) := h1.1.2.2.1
    have hw : lo (nx m.2.2) % m.1 0 0 < m.1 0 0 := Nat.mod_lt _ (by omega)
    have hl := (hlo (nx m.2.2)).2
    have hl2 := (hlo (nx (nx m.2.2))).2
    rw [n1, if_neg (fun w => q (z1.mp w)), pk_rem (by omega) (by omega) (by omega), bn_e, r_drawn hnx hlo h1, cb_s]
    have h2 := h1.pZ h8 (nx (nx m.2.2))
    have l3 : gA (pA (pA s (d + 1) 6 (nx m.2.2)) (d + 1) 6 (nx (nx m.2.2))) (d + 1) 3 = nI (m.1 1 3) := h2.1.2.2.2.1 3 (by omega)
    have b3 := hB.2.2.2.1
    dsimp only
    rw [l3, show (100 : Int32) = nI 100 from rfl, pk_rem (by omega) (by omega) (by omega)]
    have hF : Fr (wR d) s (pA (pA s (d + 1) 6 (nx m.2.2)) (d + 1) 6 (nx (nx m.2.2))) := (Fr.pA (Or.inl rfl)).tr (Fr.pA (Or.inl rfl))
    by_cases w : m.1 1 3 ≤ lo (nx (nx m.2.2)) % 100
    · have ed : drawS nx lo m = (m.1, m.2.1, nx (nx m.2.2)) := by unfold drawS; rw [if_neg q, if_pos w]
      rw [ed] at bd ⊢
      obtain ⟨s1, e, f, g⟩ := r_yearGoes h2 bd hmu
      rw [if_pos ((nI_leI (by omega) (by omega)).mpr w), e, cw_s]
      exact ⟨s1, rfl, hF.tr f, g⟩
    · have ed : drawS nx lo m = ((setR m 7 (upN (m.1 7) (lo (nx m.2.2) % m.1 0 0) (m.1 7 (lo (nx m.2.2) % m.1 0 0) / 2))).1, m.2.1, nx (nx m.2.2)) := by unfold drawS; rw [if_neg q, if_neg w]
      rw [ed] at bd ⊢
      have b7 := (hB.2.2.2.2.2 _ hw).2.2.1
      have g7 : f_X4_get d (nI (lo (nx m.2.2) % m.1 0 0)) (2 : Int32) (pA (pA s (d + 1) 6 (nx m.2.2)) (d + 1) 6 (nx (nx m.2.2))) = some (nI (m.1 7 (lo (nx m.2.2) % m.1 0 0))) := r_g2 h2 h8 hw
      rw [if_neg (fun z => w ((nI_leI (by omega) (by omega)).mp z)), g7, cp_s, n_half (by omega), r_p2 (by omega), cw_s]
      have h3 := h2.pS (p := lo (nx m.2.2) % m.1 0 0) (v := m.1 7 (lo (nx m.2.2) % m.1 0 0) / 2)
      obtain ⟨s1, e, f, g⟩ := r_yearGoes h3 bd hmu
      rw [e, cw_s]
      exact ⟨s1, rfl, (hF.tr (Fr.pA (Or.inl rfl))).tr f, g⟩
def lostN (m : MS) : Nat := cnN (lostB m) (m.1 0 0)
theorem c_lostCount (h : CM s b mu m) (hB : BM m) {α : Type} (f : Int32 → Option α) : (cp (f_X1_lostPeople b s) fun x4 => cp (f_J6_bitCount_0f7a4 x4) f) = f (nI (lostN m)) := by
  rw [c_lostPeople h hB, cp_s, bitc_n _ (mkN8 _ hB.1), cp_s, pop_mk _ hB.1]; rfl
theorem r_lostCount (h : MM s d mu m) (hB : BM m) {α : Type} (f : Int32 → Option α) : (cp (f_X4_lost d s) fun x4 => cp (f_X4_bits x4) f) = f (nI (lostN m)) := by
  rw [r_lost h hB, cp_s, bits_n _ (mkN8 _ hB.1), cp_s, pop_mk _ hB.1]; rfl
theorem p_year (hd : d = b + 53) (hC : CM s (b + 1) 0 m) (hM : MM s d 0 m) (hB : BM m) : PO b d s (f_X3_year b) (f_X4_year d) := by
  obtain ⟨nx, hnx⟩ := next_ex
  obtain ⟨lo, hlo⟩ := lot_ex
  obtain ⟨s1, e1, f1, g1⟩ := c_byDraws hnx hlo hC hB (by omega)
  have c1 : f_X3_year b s = some (nI (lostN (byDraws nx lo 0 m)), s1) := by
    unfold f_X3_year
    rw [e1, cw_s, c_lostCount g1 (hB.byDraw nx lo 0)]
  refine PO.mk hd hM (hB.byDraw nx lo 0) c1 (f1.wk (fun k q => by unfold wM at q; unfold wC; omega)) g1 (fun hM1 => ?_)
  obtain ⟨s2, e2, f2, g2⟩ := r_byDraws hnx hlo hM1 hB (by omega)
  refine ⟨s2, ?_, f2.wk (fun k q => by unfold wR at q; unfold wQ; omega), g2⟩
  unfold f_X4_year
  rw [e2, cw_s, r_lostCount g2 (hB.byDraw nx lo 0)]
/-- i years one after another, each from m with the z that the one before left -/
def revS (nx : Int32 → Int32) (lo : Int32 → Nat) (m : MS) : Nat → Int32 × Nat
  | 0 => (m.2.2, 0)
  | i + 1 => ((byDraws nx lo 0 (m.1, m.2.1, (revS nx lo m i).1)).2.2, (revS nx lo m i).2 + if lostN (byDraws nx lo 0 (m.1, m.2.1, (revS nx lo m i).1)) ≤ lostN m then 0 else 1)
theorem revS_le (nx : Int32 → Int32) (lo : Int32 → Nat) (m : MS) : ∀ i, (revS nx lo m i).2 ≤ i
  | 0 => Nat.le_refl _
  | i + 1 => by
    have := revS_le nx lo m i
    unfold revS
    dsimp only
    split <;> omega
theorem lostN_le (m : MS) (h8 : m.1 0 0 ≤ 8) : lostN m ≤ 8 := Nat.le_trans (cnN_le _ _) h8
set_option maxRecDepth 4000 in
theorem p_revel (hd : d = b + 53) (hC : CM s (b + 1) 0 m) (hM : MM s d 0 m) (hB : BM m) (a1 : Int32) : PO b d s (f_X3_revel b a1) (f_X4_revel d a1) := by
  obtain ⟨nx, hnx⟩ := next_ex
  obtain ⟨lo, hlo⟩ := lot_ex
  have h8 := hB.1
  have r1 : ∀ t, f_X4_revel d a1 t = (if bI (decide ((1 : Int) ≤ a1.toInt ∧ a1.toInt ≤ 30)) = 0 then some ((-1 : Int32), t) else cw (f_X4_keepAside d t) fun s2 => cp (f_X4_lost d s2) fun x3 => cp (f_X4_bits x3) fun x4 => L_X4_revel_31 d a1 x4 (fun (e8 : Int32) (s9 : St) => cw (f_X4_putBack d s9) fun s19 => some (e8, s19)) FU (0 : Int32) (0 : Int32) s2) := fun t => by
    unfold f_X4_revel
    rw [r_inLo, cp_s]
    rfl
  have c1 := f_X3_revel.eq_1 b a1 s
  have e0 : (a1 < (1 : Int32)) ↔ a1.toInt < 1 := by rw [Int32.lt_iff_toInt_lt]; rfl
  have e1 : (a1 ≤ (30 : Int32)) ↔ a1.toInt ≤ 30 := by rw [Int32.le_iff_toInt_le]; rfl
  by_cases h1 : a1.toInt < 1
  · rw [if_pos (e0.mpr h1)] at c1
    exact PO.no hC hM hB c1 (by rw [r1, decide_eq_false (by omega)]; rfl)
  rw [if_neg (fun w => h1 (e0.mp w))] at c1
  by_cases h2 : ¬ a1.toInt ≤ 30
  · rw [if_neg (fun w => h2 (e1.mp w))] at c1
    exact PO.no hC hM hB c1 (by rw [r1, decide_eq_false (by omega)]; rfl)
  have h2 : a1.toInt ≤ 30 := by omega
  rw [if_pos (e1.mpr h2)] at c1
  obtain ⟨n, hn⟩ : ∃ n : Nat, a1.toInt = n := ⟨a1.toInt.toNat, by omega⟩
  have ha := nI_back hn (by omega)
  subst ha
  rw [nI_toInt (by omega)] at h1 h2
  rw [c_lostCount hC hB, bn_e, hC.2.1] at c1
  have hl := lostN_le m h8
  have keyC := loopR (fun k i (q : Int32 × Int32 × St) => L_X3_revel_38 b (nI n) (nI (lostN m)) (fun (e8 : Int32) (s9 : St) => some (e8, s9)) k q.1 q.2.1 i q.2.2) (fun q => some (q.2.1, q.2.2)) n (fun i q => q.1 = (revS nx lo m i).1 ∧ q.2.1 = nI (revS nx lo m i).2 ∧ Fr (wM (b + 10)) s q.2.2) (fun k q hq => by
    show B_X3_revel_38 _ b (nI n) (nI (lostN m)) _ q.1 q.2.1 (nI n) q.2.2 = _
    unfold B_X3_revel_38
    rw [if_pos (nI_le (Nat.le_refl _) (by omega))]) (fun k i q hi ⟨q1, q2, q3⟩ => by
    obtain ⟨z, cnt, t⟩ := q
    dsimp only at q1 q2 q3
    subst q1 q2
    show ∃ s' : Int32 × Int32 × St, B_X3_revel_38 (L_X3_revel_38 b (nI n) (nI (lostN m)) (fun (e8 : Int32) (s9 : St) => some (e8, s9)) k) b (nI n) (nI (lostN m)) _ _ _ (nI i) t = L_X3_revel_38 b (nI n) (nI (lostN m)) (fun (e8 : Int32) (s9 : St) => some (e8, s9)) k s'.1 s'.2.1 (nI (i + 1)) s'.2.2 ∧ _
    have hCt : CM t (b + 1) 0 m := hC.fr q3 (fun k q1 q2 => by unfold wM; omega)
    obtain ⟨t1, e1, f1, g1⟩ := c_become hCt h8 (b := b + 10) (by omega)
    have g2 := g1.pZ (revS nx lo m i).1
    have bz : BM (m.1, m.2.1, (revS nx lo m i).1) := hB
    obtain ⟨t2, e2, f2, g3⟩ := c_byDraws hnx hlo g2 bz (by omega)
    have hl2 := lostN_le (byDraws nx lo 0 (m.1, m.2.1, (revS nx lo m i).1)) (by rw [byDraws_0]; exact h8)
    unfold B_X3_revel_38
    rw [if_neg (nI_ge hi (by omega)), e1, cw_s, bn_e, e2, cw_s, bn_e, c_lostCount g3 (bz.byDraw nx lo 0), bn_e, g3.2.1, nI_1]
    dsimp only
    refine ⟨((byDraws nx lo 0 (m.1, m.2.1, (revS nx lo m i).1)).2.2, nI (revS nx lo m (i + 1)).2, t2), ?_, rfl, rfl, ((q3.tr f1).tr (Fr.pF (by unfold wM; omega))).tr f2⟩
    rw [show (revS nx lo m (i + 1)).2 = (revS nx lo m i).2 + if lostN (byDraws nx lo 0 (m.1, m.2.1, (revS nx lo m i).1)) ≤ lostN m then 0 else 1 from rfl]
    by_cases w : lostN (byDraws nx lo 0 (m.1, m.2.1, (revS nx lo m i).1)) ≤ lostN m
    · rw [if_pos ((nI_leI (by omega) (by omega)).mpr w), if_pos w, Nat.add_zero]; rfl
    · rw [if_neg (fun z => w ((nI_leI (by omega) (by omega)).mp z)), if_neg w, nI_1])
  obtain ⟨q, e2, q1, q2, q3⟩ := keyC n 0 (m.2.2, 0, s) FU (by omega) (by show n < 1000; omega) ⟨rfl, nI_0.symm, Fr.rf⟩
  dsimp only at e2
  rw [nI_0] at e2
  rw [e2, q2] at c1
  refine PO.mk hd hM hB c1 (q3.wk (fun k q => by unfold wM at q; unfold wC; omega)) (hC.fr q3 (fun k q1 q2 => by unfold wM; omega)) (fun hM1 => ?_)
  obtain ⟨t1, e3, f3, g3, a3⟩ := r_aside hM1 h8
  have keyR := loopR (fun k i (q : Int32 × St) => L_X4_revel_31 d (nI n) (nI (lostN m)) (fun (e8 : Int32) (s9 : St) => cw (f_X4_putBack d s9) fun s19 => some (e8, s19)) k q.1 i q.2) (fun q => cw (f_X4_putBack d q.2) fun s19 => some (q.1, s19)) n (fun i q => q.1 = nI (revS nx lo m i).2 ∧ MM q.2 d 0 (m.1, m.2.1, (revS nx lo m i).1) ∧ Fr (wR d) t1 q.2) (fun k q hq => by
    show B_X4_revel_31 _ d (nI n) (nI (lostN m)) _ q.1 (nI n) q.2 = _
    unfold B_X4_revel_31
    rw [if_pos (nI_le (Nat.le_refl _) (by omega))]) (fun k i q hi ⟨q1, q2, q3⟩ => by
    obtain ⟨cnt, t⟩ := q
    dsimp only at q1 q2 q3
    subst q1
    show ∃ s' : Int32 × St, B_X4_revel_31 (L_X4_revel_31 d (nI n) (nI (lostN m)) (fun (e8 : Int32) (s9 : St) => cw (f_X4_putBack d s9) fun s19 => some (e8, s19)) k) d (nI n) (nI (lostN m)) _ _ (nI i) t = L_X4_revel_31 d (nI n) (nI (lostN m)) (fun (e8 : Int32) (s9 : St) => cw (f_X4_putBack d s9) fun s19 => some (e8, s19)) k s'.1 (nI (i + 1)) s'.2 ∧ _
    have bz : BM (m.1, m.2.1, (revS nx lo m i).1) := hB
    obtain ⟨t2, e4, f4, g4⟩ := r_byDraws hnx hlo q2 bz (by omega)
    have a4 : AM t2 d m := (a3.fr q3).fr f4
    obtain ⟨t3, e5, f5, g5⟩ := r_back a4 h8 g4.2
    have g6 := g5.pZ h8 (byDraws nx lo 0 (m.1, m.2.1, (revS nx lo m i).1)).2.2
    have hl2 := lostN_le (byDraws nx lo 0 (m.1, m.2.1, (revS nx lo m i).1)) (by rw [byDraws_0]; exact h8)
    have zz : gA t2 (d + 1) 6 = (byDraws nx lo 0 (m.1, m.2.1, (revS nx lo m i).1)).2.2 := g4.1.2.1
    unfold B_X4_revel_31
    rw [if_neg (nI_ge hi (by omega)), e4, cw_s, r_lostCount g4 (bz.byDraw nx lo 0), bn_e, nI_1]
    dsimp only
    rw [e5, zz]
    refine ⟨(nI (revS nx lo m (i + 1)).2, pA t3 (d + 1) 6 (byDraws nx lo 0 (m.1, m.2.1, (revS nx lo m i).1)).2.2), ?_, rfl, g6, ((q3.tr f4).tr (f5.wk (fun k q => Or.inl q))).tr (Fr.pA (Or.inl rfl))⟩
    rw [show (revS nx lo m (i + 1)).2 = (revS nx lo m i).2 + if lostN (byDraws nx lo 0 (m.1, m.2.1, (revS nx lo m i).1)) ≤ lostN m then 0 else 1 from rfl]
    by_cases w : lostN (byDraws nx lo 0 (m.1, m.2.1, (revS nx lo m i).1)) ≤ lostN m
    · rw [if_pos ((nI_leI (by omega) (by omega)).mpr w), if_pos w, bn_e, bn_e, cw_s, bn_e, show (0 : Int32) = nI 0 from rfl, nI_add]
    · rw [if_neg (fun z => w ((nI_leI (by omega) (by omega)).mp z)), if_neg w, bn_e, bn_e, cw_s, bn_e, nI_1])
  obtain ⟨q', e6, q1', q2', q3'⟩ := keyR n 0 (0, t1) FU (by omega) (by show n < 1000; omega) ⟨nI_0.symm, g3, Fr.rf⟩
  dsimp only at e6
  rw [nI_0] at e6
  obtain ⟨t4, e7, f7, g7⟩ := r_back (a3.fr q3') h8 q2'.2
  refine ⟨t4, ?_, (((f3.wk (fun k q => Or.inr (Or.inl q))).tr (q3'.wk (fun k q => by unfold wR at q; omega))).tr (f7.wk (fun k q => Or.inl q))), g7⟩
  rw [r1, nI_toInt (by omega), decide_eq_true (by omega), if_neg bt_ne, e3, cw_s, r_lostCount g3 hB, e6, e7, cw_s, q1']
end DRAWS
