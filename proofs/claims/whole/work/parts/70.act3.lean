/-! act -/
section ACTP
variable {s : St} {b d : Nat} {m : MS}
theorem r_disp (hB : BM m) {n : Nat} (hn : n < m.1 0 0) {t : St} (hR : RC t d m n [] false) {w : Nat} (hw : w < 4) (x : Int32) {v : Int32} {tr : List Nat} {pa : Bool} (h : rAct (m.1 5 n) n (m.1 6 n) (decide (m.1 6 n = n)) w x = some (v, tr, pa)) (K : Int32 → St → Option (Int32 × St)) :
    ∃ s9, (if nI w = 0 then cb (f_X4_swearsBy 60 d (nI (m.1 5 n)) x t) fun x20 s19 => K x20 s19 else (if nI w = (1 : Int32) then cb (f_X4_doubtsBy 60 d (nI (m.1 5 n)) x t) fun x18 s17 => K x18 s17 else (if nI w = (2 : Int32) then cb (f_X4_partsBy 60 d (nI (m.1 5 n)) x t) fun x16 s15 => K x16 s15 else cb (f_X4_signsBy 60 d (nI (m.1 5 n)) x t) fun x14 s13 => K x14 s13))) = K v s9 ∧ RC s9 d m n tr pa ∧ FrR d t s9 := by
  have b5 := (hB.2.2.2.2.2 n hn).1
  unfold rAct at h
  rcases (by omega : w = 0 ∨ w = 1 ∨ w = 2 ∨ w = 3) with rfl | rfl | rfl | rfl
  · rw [if_pos rfl] at h
    obtain ⟨s2, e2, R2, f2⟩ := sw_ok 5 60 _ x t _ _ _ _ _ (by omega) (by omega) hR h
    exact ⟨s2, by rw [if_pos (by decide), e2, cb_s], R2, f2⟩
  · rw [if_neg (by decide), if_pos rfl] at h
    obtain ⟨s2, e2, R2, f2⟩ := do_ok hB hn 5 60 _ x t _ _ _ _ _ (by omega) (by omega) hR h
    exact ⟨s2, by rw [if_neg (by decide), if_pos (by decide), e2, cb_s], R2, f2⟩
  · rw [if_neg (by decide), if_neg (by decide), if_pos rfl] at h
    obtain ⟨s2, e2, R2, f2⟩ := pa_ok hB hn 5 60 _ x t _ _ _ _ _ (by omega) (by omega) hR h
    exact ⟨s2, by rw [if_neg (by decide), if_neg (by decide), if_pos (by decide), e2, cb_s], R2, f2⟩
  · rw [if_neg (by decide), if_neg (by decide), if_neg (by decide)] at h
    obtain ⟨s2, e2, R2, f2⟩ := si_ok hB hn 5 60 _ x t _ _ _ _ _ (by omega) (by omega) hR h
    exact ⟨s2, by rw [if_neg (by decide), if_neg (by decide), if_neg (by decide), e2, cb_s], R2, f2⟩
def wAct (b d : Nat) : Nat → Prop := fun k => k = b + 51 ∨ k = b + 52 ∨ k = d + 14
def uAct (d : Nat) : Nat → Nat → Prop := fun k j => k = d ∧ 23 ≤ j ∧ j ≤ 25
theorem p_act (hd : d = b + 53) (hX : XH s b d) (hC : CM s (b + 1) 0 m) (hM : MM s d 0 m) (hB : BM m) (a1 a2 a3 : Int32) : ∃ x s1 s2, f_X3_act b a1 a2 a3 s = some (x, s1) ∧ f_X4_act d a1 a2 a3 s1 = some (x, s2) ∧ XA s2 b d ∧ Fr2 (wAct b d) (uAct d) s s2 := by
  have h8 := hB.1
  have F1 : Fr2 (wAct b d) (uAct d) s (pF s (b + 51) 1 0) := Fr.to2 (Fr.pF (Or.inl rfl))
  have FR0 : ∀ t, Fr2 (wAct b d) (uAct d) t (pF (pF t d 23 0) d 25 0) := fun t => (Fr2.pF ⟨rfl, by omega, by omega⟩).tr (Fr2.pF ⟨rfl, by omega, by omega⟩)
  have hC1 : CM (pF s (b + 51) 1 0) (b + 1) 0 m := hC.fr2 F1 (fun k q1 q2 => by unfold wAct; omega) (fun j => by unfold uAct; omega)
  have c1 := f_X3_act.eq_1 b a1 a2 a3 s
  unfold f_X0_forget at c1
  rw [bn_e, cw_s, show f_X3_isShelf a1 = some (bI (wp a1 4)) from ch_wp (by decide), cp_s, c_isWithin a2 3 (n := 3) (by decide), cp_s] at c1
  have r1 : ∀ t, f_X4_act d a1 a2 a3 t = _ := fun t => by unfold f_X4_act; rw [bn_e, bn_e, r_inN a1 3 (n := 3) (by decide), cp_s, r_inN a2 3 (n := 3) (by decide), cp_s]
  have refuse : ∀ t, Fr2 (wAct b d) (uAct d) s t → gF t (b + 51) 1 = nI 0 → XA (pF (pF t d 23 0) d 25 0) b d := fun t ft h => ⟨0, by omega, by rw [gF_pF, if_neg (by omega), gF_pF, if_neg (by omega)]; exact h, by rw [gF_pF, if_neg (by omega), gF_pF, if_pos ⟨rfl, rfl⟩]; rfl, fun i hi => absurd hi (by omega)⟩
  have z1 : gF (pF s (b + 51) 1 0) (b + 51) 1 = nI 0 := by rw [gF_pF, if_pos ⟨rfl, rfl⟩]; rfl
  cases q1 : wp a1 4
  · rw [q1] at c1
    exact ⟨0, _, _, c1, by rw [r1, q1]; rfl, refuse _ F1 z1, F1.tr (FR0 _)⟩
  cases q2 : wp a2 (3 + 1)
  · rw [q1, q2] at c1
    exact ⟨0, _, _, c1, by rw [r1, q1, q2]; rfl, refuse _ F1 z1, F1.tr (FR0 _)⟩
  obtain ⟨k, hk, rfl⟩ := wp_of q1 (by omega)
  obtain ⟨w, hw, rfl⟩ := wp_of q2 (by omega)
  have gk : ∀ {α : Type} (o : Option α), gd (ib (nI k) 4) o = o := fun o => gd_n hk (by omega)
  have ik : ix (nI k) = k := ix_n (by omega)
  have eP : ∀ t, f_X3_holdsPerson b (nI k) t = if gA t (b + 48) k = 0 then cp (f_X3_isPerson b (gA t (b + 49) k) t) fun x3 => (if x3 = 0 then some (0 : Int32) else some (1 : Int32)) else some 0 := fun t => by unfold f_X3_holdsPerson; rw [gk, ik, gk]
  have eN : ∀ t, f_X4_holdsNothing d (nI k) t = if gA t (d + 11) k = 0 then some 1 else if gA t (d + 11) k = 1 then cp (f_X4_isPerson d (gA t (d + 12) k) t) fun x4 => (if x4 = 0 then some (1 : Int32) else some (0 : Int32)) else some 0 := fun t => by unfold f_X4_holdsNothing; rw [gk, ik, gk, gk]
  rw [q1, q2, if_neg bt_ne, if_neg bt_ne, eP, gk, ik] at c1
  have r2 : ∀ t, f_X4_act d (nI k) (nI w) a3 t = _ := fun t => by rw [r1, q1, q2, if_neg bt_ne, if_neg bt_ne, eN, gk, ik, gk]
  rw [show gA (pF s (b + 51) 1 0) (b + 48) k = gA s (b + 48) k from rfl, show gA (pF s (b + 51) 1 0) (b + 49) k = gA s (b + 49) k from rfl] at c1
  rcases hX k hk with ⟨w1, w2⟩ | ⟨p, hp, w1, w2, w3, w4⟩ | ⟨j, z, hj, hz, w1, w2, w3, w4, w5, w6⟩
  · rw [w1] at c1
    refine ⟨0, _, _, c1, ?_, refuse _ F1 z1, F1.tr (FR0 _)⟩
    rw [r2]
    rw [show gA (pF (pF (pF s (b + 51) 1 0) d 23 0) d 25 0) (d + 11) k = gA s (d + 11) k from rfl, w2]
    rfl
  · rw [w1, w2, c_isPerson hC1 h8, cp_s] at c1
    have mt : ∀ t, MM t d 0 m → MM (pF (pF t d 23 0) d 25 0) d 0 m := fun t ht => ht.fr2 (FR0 t) (by unfold wAct; omega) (by unfold wAct; omega) (by unfold uAct; omega)
    have r3 : ∀ t, MM t d 0 m → gA t (d + 11) k = 1 → gA t (d + 12) k = nI p → f_X4_act d (nI k) (nI w) a3 t = _ := fun t ht t1 t2 => by rw [r2, show gA (pF (pF t d 23 0) d 25 0) (d + 11) k = gA t (d + 11) k from rfl, show gA (pF (pF t d 23 0) d 25 0) (d + 12) k = gA t (d + 12) k from rfl, t1, t2, r_isPerson (mt t ht) h8, cp_s]
    have hM1 : MM (pF s (b + 51) 1 0) d 0 m := hM.fr2 F1 (by unfold wAct; omega) (by unfold wAct; omega) (by unfold uAct; omega)
    cases q3 : wp (nI p) (m.1 0 0)
    · rw [q3] at c1
      exact ⟨0, _, _, c1, by rw [r3 _ hM1 w3 w4, q3]; rfl, refuse _ F1 z1, F1.tr (FR0 _)⟩
    · have hp' : p < m.1 0 0 := by
        obtain ⟨i, hi, e⟩ := wp_of q3 (by omega)
        rw [(nI_eq (by omega) (by omega)).mp e]; exact hi
      have b5 := (hB.2.2.2.2.2 p hp').1
      have b6 := (hB.2.2.2.2.2 p hp').2.1
      obtain ⟨k5, k6, _, _⟩ := hC1.2.2.2.2.2.2 p hp'
      rw [q3, if_pos rfl, if_neg bt_ne, cp_s, if_neg (by decide), bn_e, gd_n hp (by omega), gd_n hp (by omega), ix_n (n := p) (by omega), k5, k6] at c1
      obtain ⟨v, v', tr, pa, hc, hr, hv⟩ := act_all a3 p (m.1 6 p) (m.1 5 p) w (decide (m.1 6 p = p)) (by omega) hw
      obtain ⟨s5, hs5⟩ : ∃ s5, s5 = pF (pF (pF (pF (pF s (b + 51) 1 0) (b + 51) 2 (nI p)) (b + 51) 3 (nI (m.1 5 p))) (b + 51) 4 (nI (m.1 6 p))) (b + 51) 5 0 := ⟨_, rfl⟩
      have A5 : AC s5 (b + 51) [] false (m.1 5 p) p (m.1 6 p) := by
        rw [hs5]
        refine ⟨?_, by decide, fun i hi => absurd hi (by show ¬ i < 0; omega), ?_, ?_, ?_, ?_⟩
        · repeat rw [gF_pF]
          rw [if_neg (by omega), if_neg (by omega), if_neg (by omega), if_neg (by omega), if_pos ⟨rfl, rfl⟩]; rfl
        · repeat rw [gF_pF]
          rw [if_neg (by omega), if_neg (by omega), if_neg (by omega), if_pos ⟨rfl, rfl⟩]
        · repeat rw [gF_pF]
          rw [if_neg (by omega), if_neg (by omega), if_pos ⟨rfl, rfl⟩]
        · repeat rw [gF_pF]
          rw [if_neg (by omega), if_pos ⟨rfl, rfl⟩]
        · rw [gF_pF, if_pos ⟨rfl, rfl⟩]; rfl
      have F5 : Fr2 (wAct b d) (uAct d) s s5 := by
        rw [hs5]
        exact F1.tr (Fr.to2 ((((Fr.pF (Or.inl rfl)).tr (Fr.pF (Or.inl rfl))).tr (Fr.pF (Or.inl rfl))).tr (Fr.pF (Or.inl rfl))))
      obtain ⟨s6, e6, A6, f6⟩ := run_ok (a := b + 51) (by omega) (by omega) hp 12 60 (ownN (m.1 5 p) w) a3 0 s5 [] false v tr pa (by omega) (by omega) A5 hc
      have F6 : Fr2 (wAct b d) (uAct d) s s6 := F5.tr (Fr.to2 (f6.wk (fun k q => by unfold wAct; unfold wAc at q; omega)))
      have eC : f_X0_perform (b + 51) (nI p) (nI (m.1 5 p)) (nI (m.1 6 p)) (nI w) a3 (pF s (b + 51) 1 0) = if bI pa = 0 then some (v, s6) else some (-15, s6) := by
        unfold f_X0_perform
        rw [bn_e, bn_e, bn_e, bn_e, ← hs5, own_e A5.2.2.2.2.1 (by omega) hw, cp_s, li_0, e6, cb_s, A6.2.2.2.2.2.2]
      rw [eC] at c1
      have hM6 : MM s6 d 0 m := hM.fr2 F6 (by unfold wAct; omega) (by unfold wAct; omega) (by unfold uAct; omega)
      have t1 : gA s6 (d + 11) k = 1 := ((F6.2 (d + 11) (by unfold wAct; omega)).1 k).trans w3
      have t2 : gA s6 (d + 12) k = nI p := ((F6.2 (d + 12) (by unfold wAct; omega)).1 k).trans w4
      have R8 : RC (pF (pF (pF s6 d 23 0) d 25 0) d 24 (nI p)) d m p [] false := by
        refine ⟨?_, by decide, fun i hi => absurd hi (by show ¬ i < 0; omega), ?_, ?_, (mt s6 hM6).1, ?_⟩
        · repeat rw [gF_pF]
          rw [if_neg (by omega), if_neg (by omega), if_pos ⟨rfl, rfl⟩]; rfl
        · rw [gF_pF, if_pos ⟨rfl, rfl⟩]
        · repeat rw [gF_pF]
          rw [if_neg (by omega), if_pos ⟨rfl, rfl⟩]; rfl
        · rw [gF_pF, if_neg (by omega)]; exact (mt s6 hM6).2
      obtain ⟨s9, e9, R9, f9⟩ := r_disp hB hp' R8 hw a3 hr (fun (t10 : Int32) (s11 : St) => (if (gF s11 d 25) = 0 then some (t10, s11) else some ((-15 : Int32), s11)))
      have F9 : Fr2 (wAct b d) (uAct d) s s9 := ((F6.tr (FR0 s6)).tr (Fr2.pF ⟨rfl, by omega, by omega⟩)).tr (f9.wk (fun k q => Or.inr (Or.inr q)) (fun k j q => q))
      have eR : f_X4_act d (nI k) (nI w) a3 s6 = if bI pa = 0 then some (v', s9) else some (-15, s9) := by
        rw [r3 s6 hM6 t1 t2, q3, if_neg (by decide), if_pos rfl, if_neg bt_ne, cp_s, if_pos rfl, if_neg (by decide), bn_e, g0_ok R8 hB hp', cp_s, bn_e]
        dsimp only
        rw [e9, R9.2.2.2.2.1]
      have X9 : XA s9 b d := by
        refine ⟨tr.length, A6.2.1, ?_, R9.1, fun i hi => ?_⟩
        · rw [f9.1 (b + 51) 1 (by omega) (by omega)]
          repeat rw [gF_pF]
          rw [if_neg (by omega), if_neg (by omega), if_neg (by omega)]; exact A6.1
        · rw [(f9.2 (b + 51 + 1) (by omega)).1, R9.2.2.1 i hi]; exact A6.2.2.1 i hi
      cases pa
      · rw [if_pos bf_eq] at c1 eR
        rw [cb_s] at c1
        exact ⟨v, s6, s9, c1, by rw [eR, hv rfl], X9, F9⟩
      · rw [if_neg bt_ne] at c1 eR
        rw [cb_s] at c1
        exact ⟨-15, s6, s9, c1, eR, X9, F9⟩
  · rw [w1] at c1
    refine ⟨0, _, _, c1, ?_, refuse _ F1 z1, F1.tr (FR0 _)⟩
    rw [r2]
    rw [show gA (pF (pF (pF s (b + 51) 1 0) d 23 0) d 25 0) (d + 11) k = gA s (d + 11) k from rfl, w4]
    rfl
end ACTP
