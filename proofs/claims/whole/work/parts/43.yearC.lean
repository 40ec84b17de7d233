theorem setR_setR (m : MS) (k : Nat) (f g : Nat → Nat) : setR (setR m k f) k g = setR m k g := by
  unfold setR
  congr 1
  funext j
  by_cases h : j = k <;> simp [h]
section YEARC
variable {s : St} {b mu : Nat} {m : MS}
theorem CM.congr {m' : MS} (h : CM s b mu m) (e2 : m'.2 = m.2) (e0 : m'.1 0 0 = m.1 0 0) (e1 : ∀ i, i < 4 → m'.1 1 i = m.1 1 i) (eh : ∀ c, m'.1 2 c = m.1 2 c) (ew : ∀ c, c < 32 → m'.1 3 c = m.1 3 c) (ep : ∀ p, p < m.1 0 0 → m'.1 5 p = m.1 5 p ∧ m'.1 6 p = m.1 6 p ∧ m'.1 7 p = m.1 7 p ∧ m'.1 8 p = m.1 8 p) : CM s b mu m' := by
  obtain ⟨h1, h2, h3, h4, h5, h6, h7⟩ := h
  have eh' : m'.1 2 = m.1 2 := funext eh
  refine ⟨by rw [e2]; exact h1, by rw [e2]; exact h2, by rw [e0]; exact h3, h4, fun i hi => by rw [e1 i hi]; exact h5 i hi, fun c hc => ⟨by rw [eh c]; exact (h6 c hc).1, by rw [ew c hc]; exact (h6 c hc).2.1, by rw [eh']; exact (h6 c hc).2.2⟩, fun p hp => ?_⟩
  rw [e0] at hp
  obtain ⟨x1, x2, x3, x4⟩ := ep p hp
  rw [x1, x2, x3, x4]
  exact h7 p hp
theorem CM.congW {f g : Nat → Nat} (h : CM s b mu (setR m 3 f)) (e : ∀ c, c < 32 → f c = g c) : CM s b mu (setR m 3 g) :=
  h.congr rfl rfl (fun _ _ => rfl) (fun _ => rfl) (fun c hc => (e c hc).symm) (fun _ _ => ⟨rfl, rfl, rfl, rfl⟩)
theorem CM.self3 (h : CM s b mu m) : CM s b mu (setR m 3 (m.1 3)) := h.congr rfl rfl (fun _ _ => rfl) (fun _ => rfl) (fun _ _ => rfl) (fun _ _ => ⟨rfl, rfl, rfl, rfl⟩)
theorem CM.pW (h : CM s b mu m) {c v : Nat} (_ : c < 32) : CM (pA s (b + 3) c (nI v)) b mu (setR m 3 (fun x => if x = c then v else m.1 3 x)) := by
  obtain ⟨h1, h2, h3, h4, h5, h6, h7⟩ := h
  refine ⟨h1, h2, h3, h4, fun i hi => ?_, fun x hx => ⟨?_, ?_, ?_⟩, fun p hp => ?_⟩
  · rw [gA_pA, if_neg (by omega)]; exact h5 i hi
  · rw [gA_pA, if_neg (by omega)]; exact (h6 x hx).1
  · rw [gA_pA]
    show _ = nI (if x = c then v else m.1 3 x)
    by_cases q : x = c
    · rw [if_pos ⟨rfl, q⟩, if_pos q]
    · rw [if_neg (fun z => q z.2), if_neg q]; exact (h6 x hx).2.1
  · rw [gA_pA, if_neg (by omega)]; exact (h6 x hx).2.2
  · obtain ⟨x1, x2, x3, x4⟩ := h7 p hp
    refine ⟨?_, ?_, ?_, ?_⟩ <;> rw [gA_pA, if_neg (by omega)] <;> assumption
theorem BM.setW (hb : BM m) {f : Nat → Nat} (hf : ∀ c, c < 32 → f c ≤ 99) : BM (setR m 3 f) :=
  ⟨hb.1, hb.2.1, hb.2.2.1, hb.2.2.2.1, fun c hc => ⟨(hb.2.2.2.2.1 c hc).1, hf c hc⟩, hb.2.2.2.2.2⟩
theorem wellS_le (hb : BM m) {p : Nat} (hp : p < m.1 0 0) : wellS mu m p ≤ 30 := by
  obtain ⟨b1, b2, b3, b4⟩ := hb.2.2.2.2.2 p hp
  have b5 := hb.2.1 0 (by omega)
  have h1 : plainS m p ≤ 9 := by unfold plainS; split <;> omega
  have h2 : doubS m p ≤ 9 := by unfold doubS; split <;> omega
  unfold wellS kindW
  repeat' split
  all_goals omega
theorem disN_le (mu : Nat) (m : MS) (p q : Nat) : disN mu m p q ≤ 1 := by unfold disN; split <;> omega
/-- the pairs of p with those before it -/
theorem c_wellIn (h : CM s b mu m) (hb : BM m) (hmu : mu < 256) {p : Nat} (hp : p < m.1 0 0) (K : St → Option St) :
    ∃ s', L_X1_wellUp_27 b (nI p) K FU (0 : Int32) s = K s' ∧ Fr (fun k => k = b + 3) s s' ∧ CM s' b mu (setR m 3 (fun c => if c = m.1 8 p then min 99 (m.1 3 c + m.1 1 1 * sumTo (disN mu m p) p) else m.1 3 c)) := by
  have h8 := hb.1
  obtain ⟨b1, b2, b3, b4⟩ := hb.2.2.2.2.2 p hp
  have b5 := hb.2.1 1 (by omega)
  have hle : ∀ i, i ≤ p → ∀ c, c < 32 → (if c = m.1 8 p then min 99 (m.1 3 c + m.1 1 1 * sumTo (disN mu m p) i) else m.1 3 c) ≤ 99 := by
    intro i hi c hc
    have := (hb.2.2.2.2.1 c hc).2
    split <;> omega
  refine loop0 (fun n c s => L_X1_wellUp_27 b (nI p) K n c s) K p (by omega) (fun i t => Fr (fun k => k = b + 3) s t ∧ CM t b mu (setR m 3 (fun c => if c = m.1 8 p then min 99 (m.1 3 c + m.1 1 1 * sumTo (disN mu m p) i) else m.1 3 c))) s ⟨Fr.rf, ?_⟩ ?_ ?_
  · refine h.self3.congW (fun c hc => ?_)
    have := (hb.2.2.2.2.1 c hc).2
    simp only [sumTo, Nat.mul_zero, Nat.add_zero]
    split <;> omega
  · intro n t _
    show B_X1_wellUp_27 _ b (nI p) K (nI p) t = K t
    unfold B_X1_wellUp_27
    rw [if_pos (nI_le (Nat.le_refl p) (by omega))]
  · intro n i t hi ⟨hF, hC⟩
    show ∃ s', B_X1_wellUp_27 (L_X1_wellUp_27 b (nI p) K n) b (nI p) K (nI i) t = L_X1_wellUp_27 b (nI p) K n (nI (i + 1)) s' ∧ _
    have hb' : BM (setR m 3 (fun c => if c = m.1 8 p then min 99 (m.1 3 c + m.1 1 1 * sumTo (disN mu m p) i) else m.1 3 c)) := hb.setW (hle i (by omega))
    have e1 := c_disagree hC hb' hmu (p := p) (q := i) hp (show i < m.1 0 0 by omega)
    have e2 : disS mu (setR m 3 (fun c => if c = m.1 8 p then min 99 (m.1 3 c + m.1 1 1 * sumTo (disN mu m p) i) else m.1 3 c)) p i = disS mu m p i := rfl
    rw [e2] at e1
    unfold B_X1_wellUp_27
    rw [if_neg (nI_ge hi (by omega)), e1, cp_s, bn_e]
    by_cases hd : disS mu m p i = true
    · have e3 : gA t (b + 8) p = nI (m.1 8 p) := (hC.2.2.2.2.2.2 p hp).2.2.2
      have e4 : gA t (b + 1) 1 = nI (m.1 1 1) := hC.2.2.2.2.1 1 (by omega)
      have e5 := c_pour (b := b) (s := t) (fun c => if c = m.1 8 p then min 99 (m.1 3 c + m.1 1 1 * sumTo (disN mu m p) i) else m.1 3 c) (c := m.1 8 p) (x := m.1 1 1) (by omega) (hC.2.2.2.2.2.1 (m.1 8 p) (by omega)).2.1 (by have := hle i (by omega) (m.1 8 p) (by omega); omega)
      rw [hd, if_neg (by decide), gd_n (show p < 8 by omega) (by omega), ix_n (show p < 2 ^ 31 by omega), e3, e4, e5, cw_s, nI_1]
      refine ⟨_, rfl, hF.tr (Fr.pA rfl), ?_⟩
      have := hC.pW (c := m.1 8 p) (v := min 99 ((if m.1 8 p = m.1 8 p then min 99 (m.1 3 (m.1 8 p) + m.1 1 1 * sumTo (disN mu m p) i) else m.1 3 (m.1 8 p)) + m.1 1 1)) (by omega)
      rw [setR_setR] at this
      refine this.congW (fun c hc => ?_)
      have w9 := (hb.2.2.2.2.1 c hc).2
      simp only [setR_at, sumTo, disN, hd, if_true, Nat.mul_add, Nat.mul_one]
      by_cases q : c = m.1 8 p
      · rw [if_pos q, if_pos q, ← q]; omega
      · rw [if_neg q, if_neg q, if_neg q]
    · rw [show disS mu m p i = false by simpa using hd, if_pos (by decide), nI_1]
      refine ⟨t, rfl, hF, hC.congW (fun c hc => ?_)⟩
      simp only [sumTo, disN, hd, Bool.false_eq_true, if_false, Nat.add_zero]
theorem c_wellUp (h : CM s b mu m) (hb : BM m) (hmu : mu < 256) : ∃ s', f_X1_wellUp b s = some s' ∧ Fr (fun k => k = b + 3) s s' ∧ CM s' b mu (yW mu m) := by
  have h8 := hb.1
  have hle : ∀ i, ∀ c, c < 32 → min 99 (m.1 3 c + sumTo (gainC mu m c) i) ≤ 99 := fun i c _ => by omega
  have key : ∃ s', L_X1_wellUp_2 b (fun s3 => some s3) FU (0 : Int32) s = (fun s3 => some s3) s' ∧ Fr (fun k => k = b + 3) s s' ∧ CM s' b mu (setR m 3 (fun c => min 99 (m.1 3 c + sumTo (gainC mu m c) (m.1 0 0)))) := by
    refine loop0 (fun n c s => L_X1_wellUp_2 b (fun s3 => some s3) n c s) (fun s3 => some s3) (m.1 0 0) (by omega) (fun i t => Fr (fun k => k = b + 3) s t ∧ CM t b mu (setR m 3 (fun c => min 99 (m.1 3 c + sumTo (gainC mu m c) i)))) s ⟨Fr.rf, ?_⟩ ?_ ?_
    · refine h.self3.congW (fun c hc => ?_)
      have := (hb.2.2.2.2.1 c hc).2
      simp only [sumTo, Nat.add_zero]
      omega
    · intro n t ⟨_, hC⟩
      show B_X1_wellUp_2 _ b _ (nI (m.1 0 0)) t = _
      unfold B_X1_wellUp_2
      rw [hC.2.2.1]
      exact if_pos (nI_le (Nat.le_refl _) (by show m.1 0 0 < 2 ^ 31; omega))
    · intro n i t hi ⟨hF, hC⟩
      show ∃ s', B_X1_wellUp_2 (L_X1_wellUp_2 b (fun s3 => some s3) n) b _ (nI i) t = L_X1_wellUp_2 b (fun s3 => some s3) n (nI (i + 1)) s' ∧ _
      have hb' : BM (setR m 3 (fun c => min 99 (m.1 3 c + sumTo (gainC mu m c) i))) := hb.setW (hle i)
      have b4 := (hb.2.2.2.2.2 i hi).2.2.2
      have b5 := hb.2.1 1 (by omega)
      have hw30 := wellS_le (mu := mu) hb hi
      have e1 := c_welling hC hb' hmu (p := i) hi
      have e2 : wellS mu (setR m 3 (fun c => min 99 (m.1 3 c + sumTo (gainC mu m c) i))) i = wellS mu m i := rfl
      rw [e2] at e1
      have e3 : gA t (b + 8) i = nI (m.1 8 i) := (hC.2.2.2.2.2.2 i hi).2.2.2
      have e5 := c_pour (b := b) (s := t) (fun c => min 99 (m.1 3 c + sumTo (gainC mu m c) i)) (c := m.1 8 i) (x := wellS mu m i) (by omega) (hC.2.2.2.2.2.1 (m.1 8 i) (by omega)).2.1 (by omega)
      unfold B_X1_wellUp_2
      rw [hC.2.2.1, if_neg (nI_ge (a := i) (b := (setR m 3 (fun c => min 99 (m.1 3 c + sumTo (gainC mu m c) i))).1 0 0) hi (by show m.1 0 0 < 2 ^ 31; omega)), gd_n (show i < 8 by omega) (by omega), e1, cp_s, ix_n (show i < 2 ^ 31 by omega), e3, e5, cw_s]
      have hC2 := hC.pW (c := m.1 8 i) (v := min 99 (min 99 (m.1 3 (m.1 8 i) + sumTo (gainC mu m (m.1 8 i)) i) + wellS mu m i)) (by omega)
      rw [setR_setR] at hC2
      have hb2 : BM (setR m 3 (fun x => if x = m.1 8 i then min 99 (min 99 (m.1 3 (m.1 8 i) + sumTo (gainC mu m (m.1 8 i)) i) + wellS mu m i) else (setR m 3 (fun c => min 99 (m.1 3 c + sumTo (gainC mu m c) i))).1 3 x)) := hb.setW (fun c hc => by
        simp only [setR_at]; split <;> omega)
      obtain ⟨t2, g1, g2, g3⟩ := c_wellIn hC2 hb2 hmu (p := i) hi (fun s9 => L_X1_wellUp_2 b (fun s3 => some s3) n (nI i + 1) s9)
      rw [g1, nI_1]
      refine ⟨t2, rfl, (hF.tr (Fr.pA rfl)).tr g2, ?_⟩
      rw [setR_setR] at g3
      refine g3.congW (fun c hc => ?_)
      show (if c = m.1 8 i then min 99 ((if c = m.1 8 i then min 99 (min 99 (m.1 3 (m.1 8 i) + sumTo (gainC mu m (m.1 8 i)) i) + wellS mu m i) else min 99 (m.1 3 c + sumTo (gainC mu m c) i)) + m.1 1 1 * sumTo (disN mu m i) i) else (if c = m.1 8 i then min 99 (min 99 (m.1 3 (m.1 8 i) + sumTo (gainC mu m (m.1 8 i)) i) + wellS mu m i) else min 99 (m.1 3 c + sumTo (gainC mu m c) i))) = min 99 (m.1 3 c + (sumTo (gainC mu m c) i + gainC mu m c i))
      by_cases q : c = m.1 8 i
      · rw [if_pos q, if_pos q, ← q]
        have : gainC mu m c i = wellS mu m i + m.1 1 1 * sumTo (disN mu m i) i := by unfold gainC; rw [if_pos q.symm]
        rw [this]
        omega
      · have : gainC mu m c i = 0 := by unfold gainC; rw [if_neg (fun z => q z.symm)]
        rw [if_neg q, if_neg q, this]
        omega
  obtain ⟨s', e, f, c⟩ := key
  refine ⟨s', e, f, ?_⟩
  refine c.congW (fun x hx => ?_)
  show _ = wetW mu m x
  unfold wetW
  rw [gain_eq]
theorem goes_le : ∀ a, a < 100 → ∀ c, c < 51 → (((nI a - nI c) / (2 : Int32) ≤ 0) ↔ ¬ 2 ≤ a - c) := by decide +kernel
theorem goes_v : ∀ a, a < 100 → ∀ c, c < 51 → 2 ≤ a - c → (nI a - nI c) / (2 : Int32) = nI ((a - c) / 2) := by decide +kernel
theorem rdStep_le {bog : Nat} {h : Nat → Nat} {i : Nat} {w : Nat → Nat} (hw : ∀ c, c < 32 → w c ≤ 99) (hi : i < 32) : ∀ c, c < 32 → rdStep bog h i w c ≤ 99 := by
  intro c hc
  have h1 := hw c hc
  have h2 := hw i hi
  unfold rdStep
  split
  · dsimp only
    split
    · omega
    · split <;> omega
  · exact h1
theorem rdTo_le {bog : Nat} {h : Nat → Nat} {w : Nat → Nat} (hw : ∀ c, c < 32 → w c ≤ 99) : ∀ i, i ≤ 32 → ∀ c, c < 32 → rdTo bog h w i c ≤ 99
  | 0, _ => hw
  | i + 1, hi => rdStep_le (rdTo_le hw i (by omega)) (by omega)
theorem lowI_lt {h : Nat → Nat} {c : Nat} (hc : c < 32) : (lowI h c (-1) < 0) ↔ lowS h c = c := by
  have := lowS_lt (h := h) hc
  unfold lowI
  by_cases q : lowS h c = c
  · rw [if_pos q]; exact ⟨fun _ => q, fun _ => by decide⟩
  · rw [if_neg q]; exact ⟨fun z => absurd z (nI_pos (by omega)), fun z => absurd z q⟩
theorem c_runDown (h : CM s b mu m) (hb : BM m) : ∃ s', f_X1_runDown b s = some s' ∧ Fr (fun k => k = b + 3) s s' ∧ CM s' b mu (yD m) := by
  have hw0 : ∀ c, c < 32 → m.1 3 c ≤ 99 := fun c hc => (hb.2.2.2.2.1 c hc).2
  have hbog := hb.2.2.1
  refine loop0 (fun n c s => L_X1_runDown_2 b (fun s3 => some s3) n c s) (fun s3 => some s3) 32 (by omega) (fun i t => Fr (fun k => k = b + 3) s t ∧ CM t b mu (setR m 3 (rdTo (m.1 1 2) (m.1 2) (m.1 3) i))) s ⟨Fr.rf, h.self3⟩ ?_ ?_
  · intro n t _
    show B_X1_runDown_2 _ b _ (nI 32) t = _
    unfold B_X1_runDown_2
    exact if_pos (nI_le (Nat.le_refl 32) (by omega))
  · intro n i t hi ⟨hF, hC⟩
    show ∃ s', B_X1_runDown_2 (L_X1_runDown_2 b (fun s3 => some s3) n) b _ (nI i) t = L_X1_runDown_2 b (fun s3 => some s3) n (nI (i + 1)) s' ∧ _
    have hw := rdTo_le (bog := m.1 1 2) (h := m.1 2) hw0 i (by omega)
    have e1 : gA t (b + 3) i = nI (rdTo (m.1 1 2) (m.1 2) (m.1 3) i i) := (hC.2.2.2.2.2.1 i hi).2.1
    have e2 : gA t (b + 1) 2 = nI (m.1 1 2) := hC.2.2.2.2.1 2 (by omega)
    have e3 : gA t (b + 4) i = lowI (m.1 2) i (-1) := (hC.2.2.2.2.2.1 i hi).2.2
    have hwi := hw i hi
    have hlow := lowS_lt (h := m.1 2) hi
    have eS : rdTo (m.1 1 2) (m.1 2) (m.1 3) (i + 1) = rdStep (m.1 1 2) (m.1 2) i (rdTo (m.1 1 2) (m.1 2) (m.1 3) i) := rfl
    rw [eS]
    generalize hWd : rdTo (m.1 1 2) (m.1 2) (m.1 3) i = w at hC e1 hw hwi
    unfold B_X1_runDown_2
    rw [if_neg (by rw [li_32]; exact nI_ge hi (by omega)), gd_n hi (by omega), ix_n (show i < 2 ^ 31 by omega), bn_e, bn_e, e1, e2, nI_1]
    by_cases g : 2 ≤ w i - m.1 1 2
    · have g1 : ¬ (nI (w i) - nI (m.1 1 2)) / (2 : Int32) ≤ 0 := fun q => (goes_le _ (by omega) _ (by omega)).mp q g
      rw [if_neg g1, gd_n hi (by omega), e3]
      by_cases q : lowS (m.1 2) i = i
      · rw [if_pos ((lowI_lt hi).mpr q)]
        refine ⟨t, rfl, hF, ?_⟩
        unfold rdStep
        rw [if_neg (fun z => z.2 q)]
        exact hC
      · rw [if_neg (fun z => q ((lowI_lt hi).mp z)), gd_n hi (by omega), gd_n hi (by omega), bn_e, gd_n hi (by omega), goes_v _ (by omega) _ (by omega) g, pk_sub (by omega)]
        have hC1 := hC.pW (c := i) (v := w i - (w i - m.1 1 2) / 2) hi
        rw [setR_setR] at hC1
        have e4 : gA (pA t (b + 3) i (nI (w i - (w i - m.1 1 2) / 2))) (b + 4) i = nI (lowS (m.1 2) i) := by
          rw [gA_pA, if_neg (by omega), e3]; unfold lowI; rw [if_neg q]
        have hwl := hw _ hlow
        have e5 := c_pour (b := b) (s := pA t (b + 3) i (nI (w i - (w i - m.1 1 2) / 2))) w (c := lowS (m.1 2) i) (x := (w i - m.1 1 2) / 2) hlow (by
          rw [gA_pA, if_neg (fun z => q z.2)]; exact (hC.2.2.2.2.2.1 _ hlow).2.1) (by omega)
        rw [e4, e5, cw_s]
        refine ⟨_, rfl, (hF.tr (Fr.pA rfl)).tr (Fr.pA rfl), ?_⟩
        have hC2 := hC1.pW (c := lowS (m.1 2) i) (v := min 99 (w (lowS (m.1 2) i) + (w i - m.1 1 2) / 2)) hlow
        rw [setR_setR] at hC2
        refine hC2.congW (fun c hc => ?_)
        have e : rdStep (m.1 1 2) (m.1 2) i w = (fun c => if c = lowS (m.1 2) i then min 99 (w c + (w i - m.1 1 2) / 2) else if c = i then w i - (w i - m.1 1 2) / 2 else w c) := by unfold rdStep; exact if_pos ⟨g, q⟩
        rw [e]
        show (if c = lowS (m.1 2) i then _ else _) = (if c = lowS (m.1 2) i then _ else _)
        by_cases z : c = lowS (m.1 2) i
        · rw [if_pos z, if_pos z, z]
        · rw [if_neg z, if_neg z]; rfl
    · rw [if_pos ((goes_le _ (by omega) _ (by omega)).mpr g)]
      refine ⟨t, rfl, hF, ?_⟩
      unfold rdStep
      rw [if_neg (fun z => g z.1)]
      exact hC
theorem CM.pS (h : CM s b mu m) {p v : Nat} : CM (pA s (b + 7) p (nI v)) b mu (setR m 7 (fun x => if x = p then v else m.1 7 x)) := by
  obtain ⟨h1, h2, h3, h4, h5, h6, h7⟩ := h
  refine ⟨h1, h2, h3, h4, fun i hi => ?_, fun x hx => ⟨?_, ?_, ?_⟩, fun x hx => ⟨?_, ?_, ?_, ?_⟩⟩
  · rw [gA_pA, if_neg (by omega)]; exact h5 i hi
  · rw [gA_pA, if_neg (by omega)]; exact (h6 x hx).1
  · rw [gA_pA, if_neg (by omega)]; exact (h6 x hx).2.1
  · rw [gA_pA, if_neg (by omega)]; exact (h6 x hx).2.2
  · rw [gA_pA, if_neg (by omega)]; exact (h7 x hx).1
  · rw [gA_pA, if_neg (by omega)]; exact (h7 x hx).2.1
  · rw [gA_pA]
    show _ = nI (if x = p then v else m.1 7 x)
    by_cases q : x = p
    · rw [if_pos ⟨rfl, q⟩, if_pos q]
    · rw [if_neg (fun z => q z.2), if_neg q]; exact (h7 x hx).2.2.1
  · rw [gA_pA, if_neg (by omega)]; exact (h7 x hx).2.2.2
theorem CM.congS {f g : Nat → Nat} (h : CM s b mu (setR m 7 f)) (e : ∀ p, p < m.1 0 0 → f p = g p) : CM s b mu (setR m 7 g) :=
  h.congr rfl rfl (fun _ _ => rfl) (fun _ => rfl) (fun _ _ => rfl) (fun p hp => ⟨rfl, rfl, (e p hp).symm, rfl⟩)
theorem BM.setS (hb : BM m) {f : Nat → Nat} (hf : ∀ p, p < m.1 0 0 → f p ≤ 99) : BM (setR m 7 f) :=
  ⟨hb.1, hb.2.1, hb.2.2.1, hb.2.2.2.1, hb.2.2.2.2.1, fun p hp => ⟨(hb.2.2.2.2.2 p hp).1, (hb.2.2.2.2.2 p hp).2.1, hf p hp, (hb.2.2.2.2.2 p hp).2.2.2⟩⟩
theorem newSure_le (hb : BM m) {p : Nat} (_ : p < m.1 0 0) : newSure m p ≤ 99 := by
  unfold newSure
  repeat' split
  all_goals omega
theorem mindTo_le (hb : BM m) (n : Nat) : ∀ p, p < m.1 0 0 → mindTo m n p ≤ 99 := by
  intro p hp
  unfold mindTo
  split
  · exact newSure_le hb hp
  · exact (hb.2.2.2.2.2 p hp).2.2.1
theorem l5S_le (hb : BM m) {p : Nat} (hp : p < m.1 0 0) : l5S m p ≤ 35 := by
  have := (hb.2.2.2.2.2 p hp).2.1
  unfold l5S
  repeat' split
  all_goals omega
theorem winS_le (m : MS) (p : Nat) : winS m p ≤ 5 := by
  unfold winS
  repeat' split
  all_goals omega
theorem hs_win : ∀ a, a < 100 → ∀ w, w < 6 → mmax 0 (mmin 99 (nI a + nI w)) = nI (min 99 (a + w)) := by decide +kernel
theorem hs_lose : ∀ a, a < 100 → ∀ l, l < 36 → mmax 0 (mmin 99 (nI a + -(nI l - nI 5))) = nI (min 99 (a + 5 - l)) := by decide +kernel
theorem c_changeMinds (h : CM s b mu m) (hb : BM m) : ∃ s', f_X1_changeMinds b s = some s' ∧ Fr (fun k => k = b + 7) s s' ∧ CM s' b mu (yM m) := by
  have h8 := hb.1
  refine loop0 (fun n c s => L_X1_changeMinds_2 b (fun s3 => some s3) n c s) (fun s3 => some s3) (m.1 0 0) (by omega) (fun i t => Fr (fun k => k = b + 7) s t ∧ CM t b mu (setR m 7 (mindTo m i))) s ⟨Fr.rf, ?_⟩ ?_ ?_
  · exact h.congr rfl rfl (fun _ _ => rfl) (fun _ => rfl) (fun _ _ => rfl) (fun p hp => ⟨rfl, rfl, by simp [setR, mindTo], rfl⟩)
  · intro n t ⟨_, hC⟩
    show B_X1_changeMinds_2 _ b _ (nI (m.1 0 0)) t = _
    unfold B_X1_changeMinds_2
    rw [hC.2.2.1]
    exact if_pos (nI_le (Nat.le_refl _) (by show m.1 0 0 < 2 ^ 31; omega))
  · intro n i t hi ⟨hF, hC⟩
    show ∃ s', B_X1_changeMinds_2 (L_X1_changeMinds_2 b (fun s3 => some s3) n) b _ (nI i) t = L_X1_changeMinds_2 b (fun s3 => some s3) n (nI (i + 1)) s' ∧ _
    have hb' : BM (setR m 7 (mindTo m i)) := hb.setS (mindTo_le hb i)
    have b4 := (hb.2.2.2.2.2 i hi).2.2.2
    have b7 := (hb.2.2.2.2.2 i hi).2.2.1
    have e7 : (setR m 7 (mindTo m i)).1 7 i = m.1 7 i := by simp [setR, mindTo]
    have eL := c_isLost hC hb' (p := i) hi
    rw [e7] at eL
    have e3 : gA t (b + 8) i = nI (m.1 8 i) := (hC.2.2.2.2.2.2 i hi).2.2.2
    have e8 : gA t (b + 7) i = nI (m.1 7 i) := by rw [(hC.2.2.2.2.2.2 i hi).2.2.1, e7]
    have eW : f_X1_isWet b (nI (m.1 8 i)) t = some (bI (decide (10 ≤ m.1 3 (m.1 8 i)))) := c_isWet hC hb' (by omega)
    have eWi : f_X1_winning b (nI i) t = some (nI (winS m i)) := c_winning hC hb' hi
    have eLo : f_X1_losing b (nI i) t = some (nI (l5S m i) - nI 5) := c_losing hC hb' hi
    have hl5 := l5S_le hb hi
    have hwn := winS_le m i
    unfold B_X1_changeMinds_2
    rw [hC.2.2.1, if_neg (nI_ge (a := i) (b := (setR m 7 (mindTo m i)).1 0 0) hi (by show m.1 0 0 < 2 ^ 31; omega)), eL, cp_s, bn_e, nI_1]
    by_cases z : m.1 7 i = 0
    · rw [if_neg (by rw [decide_eq_true z]; decide)]
      refine ⟨t, rfl, hF, hC.congS (fun p hp => ?_)⟩
      unfold mindTo
      by_cases q : p < i
      · rw [if_pos q, if_pos (by omega)]
      · rw [if_neg q]
        by_cases q2 : p = i
        · subst q2; rw [if_pos (by omega)]; unfold newSure; rw [if_pos z, z]
        · rw [if_neg (by omega)]
    · rw [if_pos (by rw [decide_eq_false z]; decide), gd_n (show i < 8 by omega) (by omega), ix_n (show i < 2 ^ 31 by omega), e3, eW, cp_s, bn_e, e8]
      have fin : ∀ v, newSure m i = v → ∃ s', L_X1_changeMinds_2 b (fun s3 => some s3) n (nI (i + 1)) (pA t (b + 7) i (nI v)) = L_X1_changeMinds_2 b (fun s3 => some s3) n (nI (i + 1)) s' ∧ Fr (fun k => k = b + 7) s s' ∧ CM s' b mu (setR m 7 (mindTo m (i + 1))) := by
        intro v hv
        refine ⟨_, rfl, hF.tr (Fr.pA rfl), ?_⟩
        have hC2 := hC.pS (p := i) (v := v)
        rw [setR_setR] at hC2
        refine hC2.congS (fun p hp => ?_)
        rw [setR_at]
        unfold mindTo
        by_cases q : p = i
        · rw [if_pos q, if_pos (by omega), q, hv]
        · rw [if_neg q]
          by_cases q2 : p < i
          · rw [if_pos q2, if_pos (by omega)]
          · rw [if_neg q2, if_neg (by omega)]
      by_cases w : 10 ≤ m.1 3 (m.1 8 i)
      · rw [if_neg (by rw [decide_eq_true w]; decide), eLo, cp_s]
        dsimp only
        rw [gd_n (show i < 8 by omega) (by omega)]
        unfold f_X3_heldSure
        rw [cp_s, gd_n (show i < 8 by omega) (by omega), bn_e, hs_lose _ (by omega) _ (by omega)]
        exact fin _ (by unfold newSure; rw [if_neg z, if_pos w])
      · rw [if_pos (by rw [decide_eq_false w]; decide), eWi, cp_s]
        dsimp only
        rw [gd_n (show i < 8 by omega) (by omega)]
        unfold f_X3_heldSure
        rw [cp_s, gd_n (show i < 8 by omega) (by omega), bn_e, hs_win _ (by omega) _ (by omega)]
        exact fin _ (by unfold newSure; rw [if_neg z, if_neg w])
theorem BM.year (hb : BM m) (mu : Nat) : BM (yearS mu m) := by
  have h1 : BM (yW mu m) := hb.setW (fun c _ => by unfold wetW; omega)
  have h2 : BM (yD (yW mu m)) := h1.setW (rdTo_le (fun c hc => (h1.2.2.2.2.1 c hc).2) 32 (by omega))
  exact h2.setS (mindTo_le h2 _)
theorem CM.pY (h : CM s b mu m) (y : Int32) : CM (pF s b 1 y) b mu (m.1, y, m.2.2) := by
  obtain ⟨h1, h2, h3, h4, h5, h6, h7⟩ := h
  refine ⟨?_, ?_, ?_, ?_, h5, h6, h7⟩
  · rw [gF_pF, if_pos ⟨rfl, rfl⟩]
  · rw [gF_pF, if_neg (by omega)]; exact h2
  · rw [gF_pF, if_neg (by omega)]; exact h3
  · rw [gF_pF, if_neg (by omega)]; exact h4
/-- the cells of a Moor -/
def wM (b : Nat) : Nat → Prop := fun k => b ≤ k ∧ k ≤ b + 8
theorem c_passYear (h : CM s b mu m) (hb : BM m) (hmu : mu < 256) : ∃ s', f_X1_passYear b s = some s' ∧ Fr (wM b) s s' ∧ CM s' b mu (yearS mu m) := by
  obtain ⟨s1, e1, f1, c1⟩ := c_wellUp h hb hmu
  have b1 : BM (yW mu m) := hb.setW (fun c _ => by unfold wetW; omega)
  obtain ⟨s2, e2, f2, c2⟩ := c_runDown c1 b1
  have b2 : BM (yD (yW mu m)) := b1.setW (rdTo_le (fun c hc => (b1.2.2.2.2.1 c hc).2) 32 (by omega))
  obtain ⟨s3, e3, f3, c3⟩ := c_changeMinds c2 b2
  unfold f_X1_passYear
  rw [e1, cw_s, e2, cw_s, e3, cw_s, bn_e]
  refine ⟨_, rfl, ?_, ?_⟩
  · exact (((f1.wk (fun k q => by unfold wM; omega)).tr (f2.wk (fun k q => by unfold wM; omega))).tr (f3.wk (fun k q => by unfold wM; omega))).tr (Fr.pF (by unfold wM; omega))
  · have := c3.pY (gF s3 b 1 + 1)
    rw [c3.1] at this ⊢
    exact this
theorem BM.years (hb : BM m) (mu : Nat) : ∀ n, BM (yearsS mu m n)
  | 0 => hb
  | n + 1 => (BM.years hb mu n).year mu
theorem c_passYears (h : CM s b mu m) (hb : BM m) (hmu : mu < 256) {n : Nat} (hn : n ≤ 60) : ∃ s', f_X1_passYears b (nI n) s = some s' ∧ Fr (wM b) s s' ∧ CM s' b mu (yearsS mu m n) := by
  refine loop0 (fun k c s => L_X1_passYears_2 b (nI n) (fun s3 => some s3) k c s) (fun s3 => some s3) n (by omega) (fun i t => Fr (wM b) s t ∧ CM t b mu (yearsS mu m i)) s ⟨Fr.rf, h⟩ ?_ ?_
  · intro k t _
    show B_X1_passYears_2 _ b (nI n) _ (nI n) t = _
    unfold B_X1_passYears_2
    exact if_pos (nI_le (Nat.le_refl _) (by omega))
  · intro k i t hi ⟨hF, hC⟩
    show ∃ s', B_X1_passYears_2 (L_X1_passYears_2 b (nI n) (fun s3 => some s3) k) b (nI n) _ (nI i) t = L_X1_passYears_2 b (nI n) (fun s3 => some s3) k (nI (i + 1)) s' ∧ _
    obtain ⟨t2, e, f, c⟩ := c_passYear hC (hb.years mu i) hmu
    unfold B_X1_passYears_2
    rw [if_neg (nI_ge hi (by omega)), e, cw_s, nI_1]
    exact ⟨t2, rfl, hF.tr f, c⟩
end YEARC
