/-! the fewest that do -/
section FEWEST
variable {s : St} {b d : Nat} {m : MS}
theorem lim_c (g : Nat → Nat) : ∀ o : Option Nat, (∀ k, o = some k → k < 256) → limN o ≤ 9
  | none, _ => Nat.le_refl _
  | some k, h => by have := pop_le k (h k rfl); show popN k ≤ 9; omega
theorem p_fewest (hd : d = b + 53) (hC : CM s (b + 1) 0 m) (hM : MM s d 0 m) (hB : BM m) (a1 a2 : Int32) : PO b d s (f_X3_fewest b a1 a2) (f_X4_fewest d a1 a2) := by
  have h8 := hB.1
  have c1 := f_X3_fewest.eq_1 b a1 a2 s
  rw [c_isCell, cp_s, c_short, cp_s] at c1
  have r1 := fun t => f_X4_fewest.eq_1 d a1 a2 t
  simp only [r_isCell, cp_s, r_short] at r1
  cases h : wp a1 32
  · rw [h] at c1; exact PO.no hC hM hB c1 (by rw [r1, h]; rfl)
  cases h2 : decide ((1 : Int) ≤ a2.toInt ∧ a2.toInt ≤ 20)
  · rw [h, h2] at c1; exact PO.no hC hM hB c1 (by rw [r1, h, h2]; rfl)
  obtain ⟨c, hc, rfl⟩ := wp_of h (by omega)
  obtain ⟨n, hn, rfl⟩ := short_of h2
  have hN := pow_le8 (m.1 0 0) (by omega)
  have hN0 := Nat.two_pow_pos (m.1 0 0)
  have hall := all_n (m.1 0 0) (by omega)
  rw [h, h2, if_neg bt_ne, if_neg bt_ne, bn_e, hC.2.2.1, hall] at c1
  have g : Nat → Nat := fun i => wMu m n c (2 ^ m.1 0 0 - 1 - i)
  have keyC := loopR (fun r i (q : Int32 × Int32 × St) => L_X3_fewest_39 b (nI c) (nI n) (nI (2 ^ m.1 0 0 - 1)) (fun (e8 : Int32) (s9 : St) => some (e8, s9)) r q.1 q.2.1 i q.2.2) (fun q => some (q.1, q.2.2)) (2 ^ m.1 0 0) (fun i q => q.1 = fwI (fwS (fun i => wMu m n c (2 ^ m.1 0 0 - 1 - i)) i) ∧ q.2.1 = nI (limN (fwS (fun i => wMu m n c (2 ^ m.1 0 0 - 1 - i)) i)) ∧ Fr (wM (b + 10)) s q.2.2) (fun r q hq => by
    show B_X3_fewest_39 _ b (nI c) (nI n) (nI (2 ^ m.1 0 0 - 1)) _ q.1 q.2.1 (nI (2 ^ m.1 0 0)) q.2.2 = _
    unfold B_X3_fewest_39
    rw [if_pos (nI_lt (by omega) (by omega))]) (fun r i q hi ⟨q1, q2, q3⟩ => by
    obtain ⟨z, cnt, t⟩ := q
    dsimp only at q1 q2 q3
    subst q1 q2
    show ∃ s' : Int32 × Int32 × St, B_X3_fewest_39 (L_X3_fewest_39 b (nI c) (nI n) (nI (2 ^ m.1 0 0 - 1)) (fun (e8 : Int32) (s9 : St) => some (e8, s9)) r) b (nI c) (nI n) (nI (2 ^ m.1 0 0 - 1)) _ _ _ (nI i) t = L_X3_fewest_39 b (nI c) (nI n) (nI (2 ^ m.1 0 0 - 1)) (fun (e8 : Int32) (s9 : St) => some (e8, s9)) r s'.1 s'.2.1 (nI (i + 1)) s'.2.2 ∧ _
    have hCt : CM t (b + 1) 0 m := hC.fr q3 (fun k q1 q2 => by unfold wM; omega)
    obtain ⟨t2, e2, f2⟩ := c_without hCt hB (mu := 2 ^ m.1 0 0 - 1 - i) (by omega) (show n ≤ 60 by omega) hc
    have hw : wMu m n c (2 ^ m.1 0 0 - 1 - i) ≤ 99 := ((hB.years (2 ^ m.1 0 0 - 1 - i) n).2.2.2.2.1 c hc).2
    have hlim := lim_c (fun i => wMu m n c (2 ^ m.1 0 0 - 1 - i)) (fwS (fun i => wMu m n c (2 ^ m.1 0 0 - 1 - i)) i) (fwS_lt _ i (by omega))
    have hpop := pop_le i (by omega)
    have eS : fwS (fun i => wMu m n c (2 ^ m.1 0 0 - 1 - i)) (i + 1) = if limN (fwS (fun i => wMu m n c (2 ^ m.1 0 0 - 1 - i)) i) ≤ popN i then fwS (fun i => wMu m n c (2 ^ m.1 0 0 - 1 - i)) i else if 10 ≤ wMu m n c (2 ^ m.1 0 0 - 1 - i) then some i else fwS (fun i => wMu m n c (2 ^ m.1 0 0 - 1 - i)) i := rfl
    generalize fwS (fun i => wMu m n c (2 ^ m.1 0 0 - 1 - i)) i = o at eS hlim
    unfold B_X3_fewest_39
    rw [if_neg (nI_nlt (by omega) (by omega)), bitc_n i (by omega), cp_s, bn_e, nI_1, rest_n _ (by omega) i (by omega) hi, e2, eS]
    dsimp only
    by_cases w : limN o ≤ popN i
    · rw [if_pos ((nI_leI (by omega) (by omega)).mpr w), if_pos w]
      exact ⟨(fwI o, nI (limN o), t), rfl, rfl, rfl, q3⟩
    · rw [if_neg (fun z => w ((nI_leI (by omega) (by omega)).mp z)), if_neg w, cb_s, li_10]
      by_cases v : 10 ≤ wMu m n c (2 ^ m.1 0 0 - 1 - i)
      · rw [if_neg (nI_nlt v (by omega)), if_pos v, cp_s]
        exact ⟨(nI i, nI (popN i), t2), rfl, rfl, rfl, q3.tr f2⟩
      · rw [if_pos (nI_lt (by omega) (by omega)), if_neg v]
        exact ⟨(fwI o, nI (limN o), t2), rfl, rfl, rfl, q3.tr f2⟩)
  obtain ⟨q', e6, q1', q2', q3'⟩ := keyC (2 ^ m.1 0 0) 0 (-3, 9, s) FU (by omega) (by show 2 ^ m.1 0 0 < 1000; omega) ⟨rfl, rfl, Fr.rf⟩
  dsimp only at e6
  rw [nI_0] at e6
  rw [e6, q1'] at c1
  refine PO.mk hd hM hB c1 (q3'.wk (fun k q => by unfold wM at q; unfold wC; omega)) (hC.fr q3' (fun k q1 q2 => by unfold wM; omega)) (fun hM1 => ?_)
  obtain ⟨t1, e3, f3, g3, a3⟩ := r_aside hM1 h8
  have keyR := loopR (fun r i (q : Int32 × St) => L_X4_fewest_43 d (nI c) (nI n) (nI (2 ^ m.1 0 0 - 1)) (fun (e8 : Int32) (s9 : St) => some (e8, s9)) r q.1 i q.2) (fun q => some (q.1, q.2)) (2 ^ m.1 0 0) (fun i q => q.1 = fwI (fwS (fun i => wMu m n c (2 ^ m.1 0 0 - 1 - i)) i) ∧ Fr (wR d) t1 q.2 ∧ MM q.2 d 0 m ∧ AM q.2 d m) (fun r q hq => by
    show B_X4_fewest_43 _ d (nI c) (nI n) (nI (2 ^ m.1 0 0 - 1)) _ q.1 (nI (2 ^ m.1 0 0)) q.2 = _
    unfold B_X4_fewest_43
    rw [if_pos (nI_lt (by omega) (by omega))]) (fun r i q hi ⟨q1, q3, q4, q5⟩ => by
    obtain ⟨z, t⟩ := q
    dsimp only at q1 q3 q4 q5
    subst q1
    show ∃ s' : Int32 × St, B_X4_fewest_43 (L_X4_fewest_43 d (nI c) (nI n) (nI (2 ^ m.1 0 0 - 1)) (fun (e8 : Int32) (s9 : St) => some (e8, s9)) r) d (nI c) (nI n) (nI (2 ^ m.1 0 0 - 1)) _ _ (nI i) t = L_X4_fewest_43 d (nI c) (nI n) (nI (2 ^ m.1 0 0 - 1)) (fun (e8 : Int32) (s9 : St) => some (e8, s9)) r s'.1 (nI (i + 1)) s'.2 ∧ _
    obtain ⟨t2, e2, f2, g2, a2⟩ := r_without q4 q5 hB (mu := 2 ^ m.1 0 0 - 1 - i) (by omega) (show n ≤ 60 by omega) hc
    have hw : wMu m n c (2 ^ m.1 0 0 - 1 - i) ≤ 99 := ((hB.years (2 ^ m.1 0 0 - 1 - i) n).2.2.2.2.1 c hc).2
    have hlt := fwS_lt (fun i => wMu m n c (2 ^ m.1 0 0 - 1 - i)) i (by omega)
    have hpop := pop_le i (by omega)
    have eS : fwS (fun i => wMu m n c (2 ^ m.1 0 0 - 1 - i)) (i + 1) = if limN (fwS (fun i => wMu m n c (2 ^ m.1 0 0 - 1 - i)) i) ≤ popN i then fwS (fun i => wMu m n c (2 ^ m.1 0 0 - 1 - i)) i else if 10 ≤ wMu m n c (2 ^ m.1 0 0 - 1 - i) then some i else fwS (fun i => wMu m n c (2 ^ m.1 0 0 - 1 - i)) i := rfl
    generalize fwS (fun i => wMu m n c (2 ^ m.1 0 0 - 1 - i)) i = o at eS hlt
    unfold B_X4_fewest_43
    rw [if_neg (nI_nlt (by omega) (by omega)), bn_e, nI_1, rest_n _ (by omega) i (by omega) hi, e2, bits_n i (by omega), eS]
    dsimp only
    cases o with
    | none =>
      rw [show fwI none = (-3 : Int32) from rfl, if_pos rfl, cb_s, if_neg (show ¬ limN none ≤ popN i by show ¬ 9 ≤ popN i; omega), li_10]
      by_cases v : 10 ≤ wMu m n c (2 ^ m.1 0 0 - 1 - i)
      · rw [if_neg (nI_nlt v (by omega)), if_pos v]
        exact ⟨(nI i, t2), rfl, rfl, q3.tr f2, g2, a2⟩
      · rw [if_pos (nI_lt (by omega) (by omega)), if_neg v]
        exact ⟨(-3, t2), rfl, rfl, q3.tr f2, g2, a2⟩
    | some k =>
      have hk := hlt k rfl
      have hpk := pop_le k hk
      rw [show fwI (some k) = nI k from rfl, if_neg (three_ne (by omega)), cp_s, bits_n k hk, cp_s, show limN (some k) = popN k from rfl]
      by_cases w : popN k ≤ popN i
      · rw [if_pos ((nI_leI (by omega) (by omega)).mpr w), if_pos w]
        exact ⟨(nI k, t), rfl, rfl, q3, q4, q5⟩
      · rw [if_neg (fun z => w ((nI_leI (by omega) (by omega)).mp z)), if_neg w, cb_s, li_10]
        by_cases v : 10 ≤ wMu m n c (2 ^ m.1 0 0 - 1 - i)
        · rw [if_neg (nI_nlt v (by omega)), if_pos v]
          exact ⟨(nI i, t2), rfl, rfl, q3.tr f2, g2, a2⟩
        · rw [if_pos (nI_lt (by omega) (by omega)), if_neg v]
          exact ⟨(nI k, t2), rfl, rfl, q3.tr f2, g2, a2⟩)
  obtain ⟨q', e7, q1', q3', q4', q5'⟩ := keyR (2 ^ m.1 0 0) 0 (-3, t1) FU (by omega) (by show 2 ^ m.1 0 0 < 1000; omega) ⟨rfl, Fr.rf, g3, a3⟩
  dsimp only at e7
  rw [nI_0] at e7
  refine ⟨q'.2, ?_, (f3.wk (fun k q => Or.inr (Or.inl q))).tr (q3'.wk (fun k q => by unfold wR at q; omega)), q4'⟩
  rw [r1, h, h2, if_neg bt_ne, if_neg bt_ne, e3, cw_s, bn_e, g3.1.2.2.1, hall, e7, q1']
end FEWEST
