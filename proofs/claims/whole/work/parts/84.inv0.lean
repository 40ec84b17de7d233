/-! the state behind both constructors -/
def Zs (w : Nat → Prop) (s : St) : Prop := ∀ k, ¬ w k → (∀ j, gF s k j = 0) ∧ (∀ j, gA s k j = 0) ∧ (∀ j, gL s k j = 0)
theorem zs_z0 {w : Nat → Prop} : Zs w z0 := fun _ _ => ⟨fun _ => rfl, fun _ => rfl, fun _ => rfl⟩
theorem zs_fr {w v : Nat → Prop} {s t : St} (h : Zs w s) (f : Fr v s t) (hv : ∀ k, v k → w k) : Zs w t := fun k hk => by
  have g := f k (fun q => hk (hv k q))
  have z := h k hk
  exact ⟨fun j => (g.1 j).trans (z.1 j), fun j => (g.2.1 j).trans (z.2.1 j), fun j => (g.2.2 j).trans (z.2.2 j)⟩
theorem zs_wk {w v : Nat → Prop} {s : St} (h : Zs w s) (hv : ∀ k, w k → v k) : Zs v s := fun k hk => h k (fun q => hk (hv k q))
theorem zs_zr {w : Nat → Prop} {s : St} {k n : Nat} (h : Zs w s) : Zs w (zr s k n) := fun a ha => by
  refine ⟨fun j => ?_, fun j => ?_, fun j => ?_⟩
  · rw [gF_zr]
    by_cases q : k ≤ a ∧ a < k + n
    · rw [if_pos q]
    · rw [if_neg q]; exact (h a ha).1 j
  · rw [gA_zr]
    by_cases q : k ≤ a ∧ a < k + n
    · rw [if_pos q]
    · rw [if_neg q]; exact (h a ha).2.1 j
  · rw [gL_zr]
    by_cases q : k ≤ a ∧ a < k + n
    · rw [if_pos q]
    · rw [if_neg q]; exact (h a ha).2.2 j
theorem fr_zr {w : Nat → Prop} {s : St} {k n : Nat} (h : ∀ a, k ≤ a → a < k + n → w a) : Fr w s (zr s k n) := fun a ha => by
  have q : ¬ (k ≤ a ∧ a < k + n) := fun q => ha (h a q.1 q.2)
  exact ⟨fun j => by rw [gF_zr, if_neg q], fun j => by rw [gA_zr, if_neg q], fun j => by rw [gL_zr, if_neg q]⟩
theorem moor_tail (b : Nat) (s : St) : ∃ s', f_X1_tail b s = some s' ∧ CM s' b 0 (gI, 0, 1) ∧ Fr (wM b) s s' := by
  obtain ⟨s', e, c, f⟩ := c_clear (a := b) (pF s b 2 1)
  have h1 : gF (pF s b 2 1) b 2 = 1 := by rw [gF_pF, if_pos ⟨rfl, rfl⟩]
  rw [h1] at c
  refine ⟨s', ?_, c, (Fr.pF (by unfold wM; omega)).tr f⟩
  unfold f_X1_tail
  rw [bn_e, e, cw_s]
theorem oaths_tail (s : St) : ∃ s', f_X3_tail 0 s = some s' ∧ Fr (fun k => k = 41 ∨ k = 48) s s' ∧ (∀ j, j < 4 → gA s' 41 j = -1) ∧ (∀ j, j < 4 → gA s' 48 j = 2) := by
  obtain ⟨s1, e1, p1, p2⟩ := loop0 (fun r c s => L_X3_init_118 0 (fun (s3 : St) => L_X3_init_138 0 (fun (s8 : St) => some s8) FU (0 : Int32) s3) r c s) (fun (s3 : St) => L_X3_init_138 0 (fun (s8 : St) => some s8) FU (0 : Int32) s3) 4 (by omega) (fun i t => Fr (fun k => k = 41) s t ∧ ∀ j, j < i → gA t 41 j = -1) s ⟨Fr.rf, fun j hj => absurd hj (by omega)⟩ (by
    intro r t _
    show B_X3_init_118 _ 0 _ (nI 4) t = _
    unfold B_X3_init_118
    exact if_pos (nI_le (Nat.le_refl 4) (by omega))) (by
    intro r i t hi ⟨h1, h2⟩
    show ∃ s', B_X3_init_118 (L_X3_init_118 0 _ r) 0 _ (nI i) t = L_X3_init_118 0 _ r (nI (i + 1)) s' ∧ _
    unfold B_X3_init_118
    rw [if_neg (by rw [li_4]; exact nI_ge hi (by omega)), gd_n hi (by omega), ix_n (by omega), bn_e, nI_1]
    refine ⟨_, rfl, h1.tr (Fr.pA rfl), fun j hj => ?_⟩
    rw [gA_pA]
    by_cases q : j = i
    · rw [if_pos ⟨rfl, q⟩]
    · rw [if_neg (fun z => q z.2)]; exact h2 j (by omega))
  obtain ⟨s2, e2, q1, q2⟩ := loop0 (fun r c s => L_X3_init_138 0 (fun (s8 : St) => some s8) r c s) (fun (s8 : St) => some s8) 4 (by omega) (fun i t => Fr (fun k => k = 48) s1 t ∧ ∀ j, j < i → gA t 48 j = 2) s1 ⟨Fr.rf, fun j hj => absurd hj (by omega)⟩ (by
    intro r t _
    show B_X3_init_138 _ 0 _ (nI 4) t = _
    unfold B_X3_init_138
    exact if_pos (nI_le (Nat.le_refl 4) (by omega))) (by
    intro r i t hi ⟨h1, h2⟩
    show ∃ s', B_X3_init_138 (L_X3_init_138 0 _ r) 0 _ (nI i) t = L_X3_init_138 0 _ r (nI (i + 1)) s' ∧ _
    unfold B_X3_init_138
    rw [if_neg (by rw [li_4]; exact nI_ge hi (by omega)), gd_n hi (by omega), ix_n (by omega), bn_e, nI_1]
    refine ⟨_, rfl, h1.tr (Fr.pA rfl), fun j hj => ?_⟩
    rw [gA_pA]
    by_cases q : j = i
    · rw [if_pos ⟨rfl, q⟩]
    · rw [if_neg (fun z => q z.2)]; exact h2 j (by omega))
  refine ⟨s2, ?_, (p1.wk (fun k q => Or.inl q)).tr (q1.wk (fun k q => Or.inr q)), fun j hj => ?_, q2⟩
  · unfold f_X3_tail
    exact e1.trans e2
  · rw [(q1 41 (by omega)).2.1]
    exact p2 j hj
theorem model_tail (s : St) (h : ∀ j, gF s 53 j = 0) (h2 : ∀ j, gA s 54 j = 0) : ∃ s', f_X4_tail 53 s = some s' ∧ MM s' 53 0 (gI, 0, 1) ∧ Fr (fun k => k = 54) s s' := by
  have m0 : MM s 53 0 ((fun _ _ => 0), 0, 0) := ⟨⟨h2 4, h2 6, (h2 5).trans nI_0.symm, fun i _ => (h2 i).trans nI_0.symm, fun c _ => ⟨(h2 _).trans nI_0.symm, (h2 _).trans nI_0.symm⟩, fun p hp => absurd hp (Nat.not_lt_zero p)⟩, (h 4).trans nI_0.symm⟩
  obtain ⟨s1, e, ⟨⟨m1, m2, m3, m4, m5, m6⟩, m7⟩, f⟩ := r_firstRow m0
  have g : ∀ j, j ≠ 6 → gA (pA s1 (53 + 1) 6 1) (53 + 1) j = gA s1 (53 + 1) j := fun j hj => by rw [gA_pA, if_neg (fun q => hj q.2)]
  refine ⟨pA s1 (53 + 1) 6 1, ?_, ⟨⟨?_, ?_, ?_, fun i hi => ?_, fun c hc => ⟨?_, ?_⟩, fun p hp => absurd hp (Nat.not_lt_zero p)⟩, m7⟩, (f.wk (fun k q => q)).tr (Fr.pA rfl)⟩
  · unfold f_X4_tail
    rw [e, cw_s, bn_e]
  · rw [g 4 (by omega)]; exact m1
  · rw [gA_pA, if_pos ⟨rfl, rfl⟩]
  · rw [g 5 (by omega)]; exact m3
  · rw [g i (by omega)]; exact m4 i hi
  · rw [g _ (by omega)]; exact (m5 c hc).1
  · rw [g _ (by omega)]; exact (m5 c hc).2
def lkL (l : List (Nat × Int32)) (i : Nat) (v : Int32) : Int32 := l.foldl (fun d q => if i = q.1 then q.2 else d) v
theorem wd_lk (i : Nat) : ∀ (l : List (Nat × Int32)) (s : St), gA (wdP l s) 59 i = lkL l i (gA s 59 i)
  | [], s => rfl
  | q :: l, s => by
    show gA (wdP l (pA s 59 q.1 q.2)) 59 i = lkL l i (if i = q.1 then q.2 else gA s 59 i)
    rw [wd_lk i l, gA_pA]
    congr 1
    by_cases h : i = q.1
    · rw [if_pos ⟨rfl, h⟩, if_pos h]
    · rw [if_neg (fun z => h z.2), if_neg h]
theorem wd_fr : ∀ (l : List (Nat × Int32)) (s : St), Fr (fun k => k = 59) s (wdP l s)
  | [], s => Fr.rf
  | q :: l, s => Fr.tr (w := fun k => k = 59) (Fr.pA rfl) (wd_fr l (pA s 59 q.1 q.2))
set_option maxRecDepth 100000 in
theorem wd_ok : ∀ k, k < 16 → ∀ c, c < 8 → lkL wdL (8 * k + c) 0 = nI (wdW k c) := by decide +kernel
theorem start_inv : ∃ σ1 σ2 σ3 σ4 σ5, f_X1_tail 1 (zX1 1 (zr (zr z0 0 1) 1 1)) = some σ1 ∧ f_X1_tail 10 (zX1 10 (zr σ1 10 1)) = some σ2 ∧ f_X1_tail 19 (zX1 19 (zr σ2 19 1)) = some σ3 ∧ f_X3_tail 0 (zX3 σ3) = some σ4 ∧ f_X4_tail 53 (zX4 (zr σ4 53 1)) = some σ5 ∧ INV σ5 0 53 := by
  obtain ⟨a1, e1, c1, f1⟩ := moor_tail 1 (zX1 1 (zr (zr z0 0 1) 1 1))
  obtain ⟨a2, e2, -, f2⟩ := moor_tail 10 (zX1 10 (zr a1 10 1))
  obtain ⟨a3, e3, -, f3⟩ := moor_tail 19 (zX1 19 (zr a2 19 1))
  obtain ⟨a4, e4, f4, s41, s48⟩ := oaths_tail (zX3 a3)
  obtain ⟨w, hw⟩ : ∃ w : Nat → Prop, w = fun k => (1 ≤ k ∧ k ≤ 27) ∨ k = 41 ∨ k = 48 ∨ k = 59 := ⟨_, rfl⟩
  have Z1 : Zs w a1 := zs_fr (by unfold zX1; repeat (first | exact zs_z0 | apply zs_zr)) f1 (fun k q => by rw [hw]; unfold wM at q; dsimp only; omega)
  have Z2 : Zs w a2 := zs_fr (by unfold zX1; repeat (first | exact Z1 | apply zs_zr)) f2 (fun k q => by rw [hw]; unfold wM at q; dsimp only; omega)
  have Z3 : Zs w a3 := zs_fr (by unfold zX1; repeat (first | exact Z2 | apply zs_zr)) f3 (fun k q => by rw [hw]; unfold wM at q; dsimp only; omega)
  have Z4 : Zs w a4 := zs_fr (by unfold zX3 zX2 zX0; repeat (first | exact Z3 | apply zs_zr)) f4 (fun k q => by rw [hw]; dsimp only; omega)
  obtain ⟨p, hp⟩ : ∃ p, p = zr (zr (zr (zr (zr (zr (zr a4 53 1) 54 1) 55 1) 56 1) 57 1) 58 1) 59 1 := ⟨_, rfl⟩
  have Zp : Zs (fun k => w k ∧ k ≠ 59) p := fun a ha => by
    by_cases h : a = 59
    · subst h
      rw [hp]
      exact ⟨fun j => by rw [gF_zr, if_pos (by omega)], fun j => by rw [gA_zr, if_pos (by omega)], fun j => by rw [gL_zr, if_pos (by omega)]⟩
    · have : Zs w p := by rw [hp]; repeat (first | exact Z4 | apply zs_zr)
      exact this a (fun q => ha ⟨q, h⟩)
  have hz4 : zX4 (zr a4 53 1) = zr (zr (zr (zr (zr (zr (zr (zr (wdP wdL p) 60 1) 61 1) 62 1) 63 1) 64 1) 65 1) 66 1) 67 1 := by rw [hp]; rfl
  have Z5 : Zs w (zX4 (zr a4 53 1)) := by
    have : Zs w (wdP wdL p) := zs_fr (zs_wk Zp (fun k q => q.1)) (wd_fr wdL p) (fun k q => by rw [hw]; dsimp only; omega)
    rw [hz4]
    repeat (first | exact this | apply zs_zr)
  obtain ⟨a5, e5, m5, f5⟩ := model_tail (zX4 (zr a4 53 1)) (Z5 53 (by rw [hw]; dsimp only; omega)).1 (Z5 54 (by rw [hw]; dsimp only; omega)).2.1
  have Z6 : Zs (fun k => w k ∨ k = 54) a5 := zs_fr (zs_wk Z5 (fun k q => Or.inl q)) f5 (fun k q => Or.inr q)
  have Zf : ∀ k, ¬ w k → k ≠ 54 → (∀ j, gF a5 k j = 0) ∧ (∀ j, gA a5 k j = 0) ∧ (∀ j, gL a5 k j = 0) := fun k h1 h2 => Z6 k (fun q => q.elim h1 h2)
  have g1 : Fr (fun k => 10 ≤ k) a1 a2 := Fr.tr (by unfold zX1; repeat (first | exact Fr.rf | refine Fr.tr ?_ (fr_zr (by intros; omega)))) (f2.wk (fun k q => by unfold wM at q; omega))
  have g2 : Fr (fun k => 10 ≤ k) a2 a3 := Fr.tr (by unfold zX1; repeat (first | exact Fr.rf | refine Fr.tr ?_ (fr_zr (by intros; omega)))) (f3.wk (fun k q => by unfold wM at q; omega))
  have g3 : Fr (fun k => 10 ≤ k) a3 a4 := Fr.tr (by unfold zX3 zX2 zX0; repeat (first | exact Fr.rf | refine Fr.tr ?_ (fr_zr (by intros; omega)))) (f4.wk (fun k q => by omega))
  have g4 : Fr (fun k => 53 ≤ k) a4 p := by rw [hp]; repeat (first | exact Fr.rf | refine Fr.tr ?_ (fr_zr (by intros; omega)))
  have g5 : Fr (fun k => 53 ≤ k) (wdP wdL p) (zX4 (zr a4 53 1)) := by rw [hz4]; repeat (first | exact Fr.rf | refine Fr.tr ?_ (fr_zr (by intros; omega)))
  have g5w : Fr (fun k => 60 ≤ k) (wdP wdL p) (zX4 (zr a4 53 1)) := by rw [hz4]; repeat (first | exact Fr.rf | refine Fr.tr ?_ (fr_zr (by intros; omega)))
  have g6 : Fr (fun k => 53 ≤ k) a4 a5 := ((g4.tr ((wd_fr wdL p).wk (fun k q => by omega))).tr g5).tr (f5.wk (fun k q => by omega))
  have g7 : Fr (fun k => 10 ≤ k) a1 a5 := ((g1.tr g2).tr g3).tr (g6.wk (fun k q => by omega))
  have nw : ∀ k, ¬ ((1 ≤ k ∧ k ≤ 27) ∨ k = 41 ∨ k = 48 ∨ k = 59) → ¬ w k := fun k h => by rw [hw]; exact h
  have n0 : (0 : Int32) = nI 0 := nI_0.symm
  refine ⟨a1, a2, a3, a4, a5, e1, e2, e3, e4, e5, (gI, 0, 1), c1.fr g7 (fun k h1 h2 => by omega), m5, BM.I 1, ?_, ?_, ?_, ?_, ?_, ?_, ?_⟩
  · exact Or.inl ⟨(Zf 0 (nw 0 (by omega)) (by omega)).1 3, (Zf 53 (nw 53 (by omega)) (by omega)).1 3⟩
  · exact ⟨0, fun _ => 0, by omega, ((Zf 28 (nw 28 (by omega)) (by omega)).1 1).trans n0, ((Zf 53 (nw 53 (by omega)) (by omega)).1 7).trans n0, fun i hi => absurd hi (by omega)⟩
  · exact ⟨0, by omega, ((Zf 0 (nw 0 (by omega)) (by omega)).1 6).trans n0, ((Zf 53 (nw 53 (by omega)) (by omega)).1 15).trans n0, fun i hi => absurd hi (by omega)⟩
  · intro k hk
    have h41 : gA a5 41 k = -1 := by rw [(g6 41 (by omega)).2.1]; exact s41 k hk
    refine ⟨0, 0, by omega, by omega, h41.trans (by rw [nI_0]; decide), ((Zf 61 (nw 61 (by omega)) (by omega)).2.1 k).trans n0, ((Zf 42 (nw 42 (by omega)) (by omega)).2.1 k).trans n0, ((Zf 62 (nw 62 (by omega)) (by omega)).2.1 k).trans n0, fun i _ => ?_⟩
    exact ((Zf (0 + 44 + k) (nw _ (by omega)) (by omega)).2.2 i).trans ((Zf 63 (nw 63 (by omega)) (by omega)).2.2 _).symm
  · intro k hk
    have h48 : gA a5 48 k = 2 := by rw [(g6 48 (by omega)).2.1]; exact s48 k hk
    exact Or.inl ⟨h48, (Zf 64 (nw 64 (by omega)) (by omega)).2.1 k⟩
  · exact ⟨0, by omega, ((Zf 51 (nw 51 (by omega)) (by omega)).1 1).trans n0, ((Zf 53 (nw 53 (by omega)) (by omega)).1 23).trans n0, fun i hi => absurd hi (by omega)⟩
  · intro k hk c hc
    show gA a5 59 (8 * k + c) = _
    rw [(f5 59 (by omega)).2.1, (g5w 59 (by omega)).2.1, wd_lk, (Zp 59 (fun q => q.2 rfl)).2.1]
    exact wd_ok k hk c hc
