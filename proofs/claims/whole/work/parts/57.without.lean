/-! without some: needed, fewest; ends -/
def wMu (m : MS) (n c mu : Nat) : Nat := (yearsS mu m n).1 3 c
def ndS (f : Nat → Nat) : Nat → Int32 × Int32
  | 0 => (nI (f 0), -3)
  | i + 1 => if (ndS f i).1 ≤ nI (f (2 ^ i)) then ndS f i else (nI (f (2 ^ i)), nI i)
def limN : Option Nat → Nat
  | none => 9
  | some k => popN k
def fwI : Option Nat → Int32
  | none => -3
  | some k => nI k
def fwS (g : Nat → Nat) : Nat → Option Nat
  | 0 => none
  | i + 1 => if limN (fwS g i) ≤ popN i then fwS g i else if 10 ≤ g i then some i else fwS g i
theorem all_n : ∀ n, n < 9 → ((1 : Int32) <<< (nI n &&& 31)) - (1 : Int32) = nI (2 ^ n - 1) := by decide +kernel
theorem rest_n : ∀ n, n < 9 → ∀ i, i < 256 → i < 2 ^ n → (nI (2 ^ n - 1) &&& (nI i ^^^ (-1 : Int32))) = nI (2 ^ n - 1 - i) := by decide +kernel
theorem pow_le8 : ∀ n, n < 9 → 2 ^ n ≤ 256 := by decide
theorem fwS_lt (g : Nat → Nat) : ∀ i, i ≤ 256 → ∀ k, fwS g i = some k → k < 256
  | 0, _, k, h => by cases h
  | i + 1, hi, k, h => by
    have ih := fwS_lt g i (by omega)
    unfold fwS at h
    split at h
    · exact ih k h
    · split at h
      · cases h; omega
      · exact ih k h
section WITHOUT
variable {s : St} {b d mu : Nat} {m : MS}
theorem CM.pMu {mu0 : Nat} (h : CM s b mu0 m) (mu : Nat) : CM (pF s b 11 (nI mu)) b mu m := by
  obtain ⟨h1, h2, h3, h4, h5, h6, h7⟩ := h
  refine ⟨?_, ?_, ?_, ?_, h5, h6, h7⟩
  · rw [gF_pF, if_neg (by omega)]; exact h1
  · rw [gF_pF, if_neg (by omega)]; exact h2
  · rw [gF_pF, if_neg (by omega)]; exact h3
  · rw [gF_pF, if_pos ⟨rfl, rfl⟩]
theorem c_without (hC : CM s (b + 1) 0 m) (hB : BM m) (hmu : mu < 256) {n c : Nat} (hn : n ≤ 60) (hc : c < 32) : ∃ s3, f_X3_levelWithout b (nI mu) (nI c) (nI n) s = some (nI (wMu m n c mu), s3) ∧ Fr (wM (b + 10)) s s3 := by
  obtain ⟨s1, e1, f1, g1⟩ := c_become hC hB.1 (b := b + 10) (by omega)
  have g2 := g1.pMu mu
  obtain ⟨s3, e3, f3, g3⟩ := c_passYears g2 hB hmu hn
  refine ⟨s3, ?_, (f1.tr (Fr.pF (by unfold wM; omega))).tr f3⟩
  unfold f_X3_levelWithout
  rw [e1, cw_s, bn_e, e3, cw_s, gd_n hc (by omega), ix_n (by omega), (g3.2.2.2.2.2.1 c hc).2.1]
  rfl
theorem fr_mute {w : Nat → Prop} {t : St} {x : Int32} (h : Fr w (pF s d 4 x) t) (h0 : gF s d 4 = 0) : Fr w s (pF t d 4 0) := by
  intro k hk
  obtain ⟨h1, h2, h3⟩ := h k hk
  refine ⟨fun j => ?_, h2, h3⟩
  rw [gF_pF]
  by_cases q : k = d ∧ j = 4
  · rw [if_pos q, q.1, q.2, h0]
  · rw [if_neg q, h1 j, gF_pF, if_neg q]
theorem r_without (hM : MM s d 0 m) (hA : AM s d m) (hB : BM m) (hmu : mu < 256) {n c : Nat} (hn : n ≤ 60) (hc : c < 32) : ∃ s', f_X4_levelWithout d (nI mu) (nI c) (nI n) s = some (nI (wMu m n c mu), s') ∧ Fr (wR d) s s' ∧ MM s' d 0 m ∧ AM s' d m := by
  have h8 := hB.1
  have m1 : MM (pF s d 4 (nI mu)) d mu m := ⟨hM.1, by rw [gF_pF, if_pos ⟨rfl, rfl⟩]⟩
  have a1 : AM (pF s d 4 (nI mu)) d m := hA
  obtain ⟨t2, e4, f4, g4⟩ := r_yearsGo m1 hB hmu hn
  have a2 := a1.fr f4
  obtain ⟨t3, e5, f5, g5⟩ := r_back a2 h8 g4.2
  have hF : Fr (wR d) s (pF t3 d 4 0) := fr_mute (f4.tr (f5.wk (fun k q => Or.inl q))) hM.2
  refine ⟨pF t3 d 4 0, ?_, hF, ⟨g5.1, by rw [gF_pF, if_pos ⟨rfl, rfl⟩]; rfl⟩, hA.fr hF⟩
  unfold f_X4_levelWithout f_X4_levelWith
  rw [bn_e, bn_e, if_pos (by decide)]
  dsimp only
  rw [e4, cw_s, show (39 : Int32) + nI c = nI (39 + c) from nI_add 39 c, gd_n (show 39 + c < 103 by omega) (by omega), ix_n (by omega), bn_e, e5, cw_s, (g4.1.2.2.2.2.1 c hc).2, cb_s, bn_e]
  rfl
theorem p_needed (hd : d = b + 53) (hC : CM s (b + 1) 0 m) (hM : MM s d 0 m) (hB : BM m) (a1 a2 : Int32) : PO b d s (f_X3_needed b a1 a2) (f_X4_needed d a1 a2) := by
  have h8 := hB.1
  have c1 := f_X3_needed.eq_1 b a1 a2 s
  rw [c_isCell, cp_s, c_short, cp_s] at c1
  have r1 := fun t => f_X4_needed.eq_1 d a1 a2 t
  simp only [r_isCell, cp_s, r_short] at r1
  cases h : wp a1 32
  · rw [h] at c1; exact PO.no hC hM hB c1 (by rw [r1, h]; rfl)
  cases h2 : decide ((1 : Int) ≤ a2.toInt ∧ a2.toInt ≤ 20)
  · rw [h, h2] at c1; exact PO.no hC hM hB c1 (by rw [r1, h, h2]; rfl)
  obtain ⟨c, hc, rfl⟩ := wp_of h (by omega)
  obtain ⟨n, hn, rfl⟩ := short_of h2
  obtain ⟨s1, e1, f1⟩ := c_without hC hB (mu := 0) (by omega) (show n ≤ 60 by omega) hc
  rw [h, h2, if_neg bt_ne, if_neg bt_ne, li_0, e1, cb_s, ← li_0] at c1
  have keyC := loopR (fun r i (q : Int32 × Int32 × St) => L_X3_needed_31 b (nI c) (nI n) (fun (e9 : Int32) (s10 : St) => some (e9, s10)) r q.1 q.2.1 i q.2.2) (fun q => some (q.2.1, q.2.2)) (m.1 0 0) (fun i q => q.1 = (ndS (wMu m n c) i).1 ∧ q.2.1 = (ndS (wMu m n c) i).2 ∧ Fr (wM (b + 10)) s q.2.2) (fun r q ⟨_, _, q3⟩ => by
    show B_X3_needed_31 _ b (nI c) (nI n) _ q.1 q.2.1 (nI (m.1 0 0)) q.2.2 = _
    unfold B_X3_needed_31
    rw [(hC.fr q3 (fun k q1 q2 => by unfold wM; omega)).2.2.1, if_pos (nI_le (Nat.le_refl _) (by omega))]) (fun r i q hi ⟨q1, q2, q3⟩ => by
    obtain ⟨z, cnt, t⟩ := q
    dsimp only at q1 q2 q3
    subst q1 q2
    show ∃ s' : Int32 × Int32 × St, B_X3_needed_31 (L_X3_needed_31 b (nI c) (nI n) (fun (e9 : Int32) (s10 : St) => some (e9, s10)) r) b (nI c) (nI n) _ _ _ (nI i) t = L_X3_needed_31 b (nI c) (nI n) (fun (e9 : Int32) (s10 : St) => some (e9, s10)) r s'.1 s'.2.1 (nI (i + 1)) s'.2.2 ∧ _
    have hCt : CM t (b + 1) 0 m := hC.fr q3 (fun k q1 q2 => by unfold wM; omega)
    have h2i : 2 ^ i < 256 := Nat.lt_of_lt_of_le (Nat.pow_lt_pow_right (by omega) hi) (pow_le8 _ (by omega))
    obtain ⟨t2, e2, f2⟩ := c_without hCt hB h2i (show n ≤ 60 by omega) hc
    unfold B_X3_needed_31
    rw [hCt.2.2.1, if_neg (nI_ge hi (by omega)), shl_n i (by omega), e2, cb_s, bn_e, nI_1]
    refine ⟨((ndS (wMu m n c) (i + 1)).1, (ndS (wMu m n c) (i + 1)).2, t2), ?_, rfl, rfl, q3.tr f2⟩
    dsimp only
    rw [show ndS (wMu m n c) (i + 1) = if (ndS (wMu m n c) i).1 ≤ nI (wMu m n c (2 ^ i)) then ndS (wMu m n c) i else (nI (wMu m n c (2 ^ i)), nI i) from rfl]
    split <;> rfl)
  obtain ⟨q', e6, q1', q2', q3'⟩ := keyC (m.1 0 0) 0 (nI (wMu m n c 0), -3, s1) FU (by omega) (by show m.1 0 0 < 1000; omega) ⟨rfl, rfl, f1⟩
  dsimp only at e6
  rw [nI_0] at e6
  rw [e6, q2'] at c1
  refine PO.mk hd hM hB c1 (q3'.wk (fun k q => by unfold wM at q; unfold wC; omega)) (hC.fr q3' (fun k q1 q2 => by unfold wM; omega)) (fun hM1 => ?_)
  obtain ⟨t1, e3, f3, g3, a3⟩ := r_aside hM1 h8
  obtain ⟨t2, e4, f4, g4, a4⟩ := r_without g3 a3 hB (mu := 0) (by omega) (show n ≤ 60 by omega) hc
  have keyR := loopR (fun r i (q : Int32 × Int32 × St) => L_X4_needed_40 d (nI c) (nI n) (fun (e10 : Int32) (s11 : St) => some (e10, s11)) r q.1 q.2.1 i q.2.2) (fun q => some (q.2.1, q.2.2)) (m.1 0 0) (fun i q => q.1 = (ndS (wMu m n c) i).1 ∧ q.2.1 = (ndS (wMu m n c) i).2 ∧ Fr (wR d) t1 q.2.2 ∧ MM q.2.2 d 0 m ∧ AM q.2.2 d m) (fun r q ⟨_, _, _, q4, _⟩ => by
    show B_X4_needed_40 _ d (nI c) (nI n) _ q.1 q.2.1 (nI (m.1 0 0)) q.2.2 = _
    unfold B_X4_needed_40
    rw [q4.1.2.2.1, if_pos (nI_le (Nat.le_refl _) (by omega))]) (fun r i q hi ⟨q1, q2, q3, q4, q5⟩ => by
    obtain ⟨z, cnt, t⟩ := q
    dsimp only at q1 q2 q3 q4 q5
    subst q1 q2
    show ∃ s' : Int32 × Int32 × St, B_X4_needed_40 (L_X4_needed_40 d (nI c) (nI n) (fun (e10 : Int32) (s11 : St) => some (e10, s11)) r) d (nI c) (nI n) _ _ _ (nI i) t = L_X4_needed_40 d (nI c) (nI n) (fun (e10 : Int32) (s11 : St) => some (e10, s11)) r s'.1 s'.2.1 (nI (i + 1)) s'.2.2 ∧ _
    have h2i : 2 ^ i < 256 := Nat.lt_of_lt_of_le (Nat.pow_lt_pow_right (by omega) hi) (pow_le8 _ (by omega))
    obtain ⟨t2, e2, f2, g2, a2⟩ := r_without q4 q5 hB h2i (show n ≤ 60 by omega) hc
    unfold B_X4_needed_40
    rw [q4.1.2.2.1, if_neg (nI_ge hi (by omega)), shl_n i (by omega), e2, cb_s, bn_e, nI_1]
    refine ⟨((ndS (wMu m n c) (i + 1)).1, (ndS (wMu m n c) (i + 1)).2, t2), ?_, rfl, rfl, q3.tr f2, g2, a2⟩
    dsimp only
    rw [show ndS (wMu m n c) (i + 1) = if (ndS (wMu m n c) i).1 ≤ nI (wMu m n c (2 ^ i)) then ndS (wMu m n c) i else (nI (wMu m n c (2 ^ i)), nI i) from rfl]
    split <;> rfl)
  obtain ⟨q', e7, q1', q2', q3', q4', q5'⟩ := keyR (m.1 0 0) 0 (nI (wMu m n c 0), -3, t2) FU (by omega) (by show m.1 0 0 < 1000; omega) ⟨rfl, rfl, f4, g4, a4⟩
  dsimp only at e7
  rw [nI_0] at e7
  refine ⟨q'.2.2, ?_, (f3.wk (fun k q => Or.inr (Or.inl q))).tr (q3'.wk (fun k q => by unfold wR at q; omega)), q4'⟩
  rw [r1, h, h2, if_neg bt_ne, if_neg bt_ne, e3, cw_s, li_0, e4, cb_s, ← li_0, e7, q2']
theorem lowStep_dn {h : Nat → Nat} {x o c : Nat} {ok : Bool} (hx : x = c ∨ h x < h c) : lowStep h x ok o = c ∨ h (lowStep h x ok o) < h c := by
  unfold lowStep
  split
  · rename_i q
    rcases hx with hx | hx
    · rw [hx] at q; exact Or.inr q.2
    · exact Or.inr (by omega)
  · exact hx
theorem lowS_dn {h : Nat → Nat} {c : Nat} (q : lowS h c ≠ c) : h (lowS h c) < h c := by
  have : lowS h c = c ∨ h (lowS h c) < h c := lowStep_dn (lowStep_dn (lowStep_dn (lowStep_dn (Or.inl rfl))))
  rcases this with z | z
  · exact absurd z q
  · exact z
theorem p_ends (hC : CM s (b + 1) 0 m) (hM : MM s d 0 m) (hB : BM m) (a1 : Int32) : PP s (f_X3_ends b a1) (f_X4_ends d a1) := by
  unfold PP f_X3_ends f_X4_ends
  rw [c_isCell, cp_s, r_isCell, cp_s]
  cases h : wp a1 32
  · exact ⟨-1, rfl, rfl⟩
  obtain ⟨c, hc, rfl⟩ := wp_of h (by omega)
  rw [if_neg bt_ne, if_neg bt_ne]
  have key : ∀ (v c i r : Nat), c < 32 → m.1 2 c ≤ v → i + v < 32 → v < r → ∃ e, L_X3_ends_13 b s (fun e4 => some e4) r (nI c) (nI i) = some (nI e) ∧ L_X4_ends_11 d s (fun e3 => some e3) r (nI c) = some (nI e) := by
    intro v
    induction v with
    | zero =>
      intro c i r hc hv hi hr
      obtain ⟨r, rfl⟩ : ∃ j, r = j + 1 := ⟨r - 1, by omega⟩
      have q : lowS (m.1 2) c = c := by
        by_cases z : lowS (m.1 2) c = c
        · exact z
        · have := lowS_dn z; omega
      refine ⟨c, ?_, ?_⟩
      · show B_X3_ends_13 _ b s _ (nI c) (nI i) = _
        unfold B_X3_ends_13
        rw [if_neg (by rw [li_32]; exact nI_ge (by omega) (by omega)), gd_n hc (by omega), ix_n (by omega), (hC.2.2.2.2.2.1 c hc).2.2, if_pos ((lowI_lt hc).mpr q)]
      · show B_X4_ends_11 _ d s _ (nI c) = _
        unfold B_X4_ends_11
        rw [r_lowestOf hM hB hc, cp_s]
        unfold lowI
        rw [if_pos q, if_pos rfl]
    | succ v ih =>
      intro c i r hc hv hi hr
      obtain ⟨r, rfl⟩ : ∃ j, r = j + 1 := ⟨r - 1, by omega⟩
      have hl := lowS_lt (h := m.1 2) hc
      by_cases q : lowS (m.1 2) c = c
      · refine ⟨c, ?_, ?_⟩
        · show B_X3_ends_13 _ b s _ (nI c) (nI i) = _
          unfold B_X3_ends_13
          rw [if_neg (by rw [li_32]; exact nI_ge (by omega) (by omega)), gd_n hc (by omega), ix_n (by omega), (hC.2.2.2.2.2.1 c hc).2.2, if_pos ((lowI_lt hc).mpr q)]
        · show B_X4_ends_11 _ d s _ (nI c) = _
          unfold B_X4_ends_11
          rw [r_lowestOf hM hB hc, cp_s]
          unfold lowI
          rw [if_pos q, if_pos rfl]
      · obtain ⟨e, e1, e2⟩ := ih (lowS (m.1 2) c) (i + 1) r hl (by have := lowS_dn q; omega) (by omega) (by omega)
        refine ⟨e, ?_, ?_⟩
        · show B_X3_ends_13 (L_X3_ends_13 b s (fun e4 => some e4) r) b s _ (nI c) (nI i) = _
          unfold B_X3_ends_13
          rw [if_neg (by rw [li_32]; exact nI_ge (by omega) (by omega)), gd_n hc (by omega), ix_n (by omega), (hC.2.2.2.2.2.1 c hc).2.2, if_neg (fun z => q ((lowI_lt hc).mp z)), gd_n hc (by omega), bn_e, nI_1]
          unfold lowI
          rw [if_neg q]
          exact e1
        · show B_X4_ends_11 (L_X4_ends_11 d s (fun e3 => some e3) r) d s _ (nI c) = _
          unfold B_X4_ends_11
          rw [r_lowestOf hM hB hc, cp_s]
          unfold lowI
          rw [if_neg q, if_neg (three_ne (by omega)), cp_s]
          exact e2
  obtain ⟨e, e1, e2⟩ := key 9 c 0 FU hc (hB.2.2.2.2.1 c hc).1 (by omega) (by show 9 < 1000; omega)
  rw [nI_0] at e1
  exact ⟨_, e1, e2⟩
end WITHOUT
