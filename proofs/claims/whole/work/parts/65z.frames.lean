/-! finer frames: cells and single fields -/
def Fr2 (w : Nat → Prop) (u : Nat → Nat → Prop) (s t : St) : Prop := (∀ k j, ¬ w k → ¬ u k j → gF t k j = gF s k j) ∧ (∀ k, ¬ w k → (∀ j, gA t k j = gA s k j) ∧ (∀ j, gL t k j = gL s k j))
section FRAMES
variable {w w' : Nat → Prop} {u u' : Nat → Nat → Prop} {s t v : St} {b d mu : Nat} {m : MS}
theorem Fr.to2 (h : Fr w s t) : Fr2 w u s t := ⟨fun k j hk _ => (h k hk).1 j, fun k hk => (h k hk).2⟩
theorem Fr2.rf : Fr2 w u s s := ⟨fun _ _ _ _ => rfl, fun _ _ => ⟨fun _ => rfl, fun _ => rfl⟩⟩
theorem Fr2.tr (h : Fr2 w u s t) (g : Fr2 w u t v) : Fr2 w u s v := ⟨fun k j hk hj => (g.1 k j hk hj).trans (h.1 k j hk hj), fun k hk => ⟨fun j => ((g.2 k hk).1 j).trans ((h.2 k hk).1 j), fun j => ((g.2 k hk).2 j).trans ((h.2 k hk).2 j)⟩⟩
theorem Fr2.wk (h : Fr2 w u s t) (hw : ∀ k, w k → w' k) (hu : ∀ k j, u k j → u' k j) : Fr2 w' u' s t := ⟨fun k j hk hj => h.1 k j (fun q => hk (hw k q)) (fun q => hj (hu k j q)), fun k hk => h.2 k (fun q => hk (hw k q))⟩
theorem Fr2.pF {k j : Nat} {x : Int32} (h : u k j) : Fr2 w u s (pF s k j x) := ⟨fun k' j' _ hj => by
  rw [gF_pF, if_neg (fun (q : k' = k ∧ j' = j) => hj (by rw [q.1, q.2]; exact h))], fun _ _ => ⟨fun _ => rfl, fun _ => rfl⟩⟩
theorem CM.fr2 (h : CM s b mu m) (f : Fr2 w u s t) (hw : ∀ k, b ≤ k → k ≤ b + 8 → ¬ w k) (hu : ∀ j, ¬ u b j) : CM t b mu m := by
  obtain ⟨h1, h2, h3, h4, h5, h6, h7⟩ := h
  have g : ∀ k, k ≤ 8 → ∀ j, gA t (b + k) j = gA s (b + k) j := fun k hk j => (f.2 (b + k) (hw _ (by omega) (by omega))).1 j
  have g0 : ∀ j, gF t b j = gF s b j := fun j => f.1 b j (hw _ (by omega) (by omega)) (hu j)
  refine ⟨(g0 _).trans h1, (g0 _).trans h2, (g0 _).trans h3, (g0 _).trans h4, fun i hi => (g 1 (by omega) i).trans (h5 i hi), fun c hc => ⟨(g 2 (by omega) c).trans (h6 c hc).1, (g 3 (by omega) c).trans (h6 c hc).2.1, (g 4 (by omega) c).trans (h6 c hc).2.2⟩, fun p hp => ⟨(g 5 (by omega) p).trans (h7 p hp).1, (g 6 (by omega) p).trans (h7 p hp).2.1, (g 7 (by omega) p).trans (h7 p hp).2.2.1, (g 8 (by omega) p).trans (h7 p hp).2.2.2⟩⟩
theorem RM.fr2 {k : Nat} (h : RM (gA s k) m) (f : Fr2 w u s t) (hw : ¬ w k) : RM (gA t k) m := by
  rw [show gA t k = gA s k from funext (f.2 k hw).1]; exact h
theorem MM.fr2 (h : MM s d mu m) (f : Fr2 w u s t) (hw : ¬ w (d + 1)) (hw0 : ¬ w d) (hu : ¬ u d 4) : MM t d mu m := ⟨RM.fr2 h.1 f hw, (f.1 d 4 hw0 hu).trans h.2⟩
theorem XK.fr2 (h : XK s b d) (f : Fr2 w u s t) (hw : ∀ k, b + 19 ≤ k → k ≤ b + 27 → ¬ w k) (hw1 : ¬ w b) (hw2 : ¬ w d) (hw3 : ¬ w (d + 2)) (hu1 : ¬ u b 3) (hu2 : ¬ u d 3) (hu3 : ∀ j, ¬ u (b + 19) j) : XK t b d := by
  rcases h with ⟨h1, h2⟩ | ⟨h1, h2, k, hk, hr, hb⟩
  · exact Or.inl ⟨(f.1 b 3 hw1 hu1).trans h1, (f.1 d 3 hw2 hu2).trans h2⟩
  · exact Or.inr ⟨(f.1 b 3 hw1 hu1).trans h1, (f.1 d 3 hw2 hu2).trans h2, k, hk.fr2 f (fun k q1 q2 => hw k q1 (by omega)) hu3, RM.fr2 hr f hw3, hb⟩
theorem XR.fr2 (h : XR s b d) (f : Fr2 w u s t) (hw : ∀ k, b + 31 ≤ k → k ≤ b + 40 → ¬ w k) (hw1 : ¬ w b) (hw2 : ¬ w d) (hw3 : ¬ w (d + 7)) (hu1 : ¬ u b 6) (hu2 : ¬ u d 15) : XR t b d := by
  obtain ⟨n, hn, h1, h2, h3⟩ := h
  exact ⟨n, hn, (f.1 b 6 hw1 hu1).trans h1, (f.1 d 15 hw2 hu2).trans h2, fun i hi x hx => ((f.2 _ (hw (b + 31 + i) (by omega) (by omega))).1 x).trans ((h3 i hi x hx).trans ((f.2 _ hw3).1 _).symm)⟩
theorem XS.fr2 (h : XS s b d) (f : Fr2 w u s t) (hw : ∀ k, b + 41 ≤ k → k ≤ b + 47 → k ≠ b + 43 → ¬ w k) (hw2 : ∀ k, d + 8 ≤ k → k ≤ d + 10 → ¬ w k) : XS t b d := fun k hk => by
  obtain ⟨j, z, hj, hz, h1, h2, h3, h4, h5⟩ := h k hk
  exact ⟨j, z, hj, hz, ((f.2 _ (hw (b + 41) (by omega) (by omega) (by omega))).1 k).trans h1, ((f.2 _ (hw2 (d + 8) (by omega) (by omega))).1 k).trans h2, ((f.2 _ (hw (b + 42) (by omega) (by omega) (by omega))).1 k).trans h3, ((f.2 _ (hw2 (d + 9) (by omega) (by omega))).1 k).trans h4, fun i hi => ((f.2 _ (hw (b + 44 + k) (by omega) (by omega) (by omega))).2 i).trans ((h5 i hi).trans ((f.2 _ (hw2 (d + 10) (by omega) (by omega))).2 _).symm)⟩
theorem XA.fr2 (h : XA s b d) (f : Fr2 w u s t) (hw0 : ¬ w (b + 51)) (hw1 : ¬ w (b + 52)) (hw2 : ¬ w d) (hw3 : ¬ w (d + 14)) (hu1 : ¬ u (b + 51) 1) (hu2 : ¬ u d 23) : XA t b d := by
  obtain ⟨n, hn, h1, h2, h3⟩ := h
  exact ⟨n, hn, (f.1 _ 1 hw0 hu1).trans h1, (f.1 d 23 hw2 hu2).trans h2, fun i hi => ((f.2 (b + 51 + 1) hw1).1 i).trans ((h3 i hi).trans ((f.2 _ hw3).1 i).symm)⟩
end FRAMES
