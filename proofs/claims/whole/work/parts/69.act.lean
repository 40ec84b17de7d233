/-! the acts -/
def ownN (k w : Nat) : Nat := ([10, 11, 12, 13, 10, 20, 12, 13, 30, 11, 12, 31, 51, 20, 50, 13, 40, 41, 12, 31, 10, 11, 61, 60] : List Nat).getD (4 * k + w) 0
abbrev AR : Type := Option (Int32 × List Nat × Bool)
def ob (o : AR) (f : Int32 → List Nat → Bool → AR) : AR := match o with
  | none => none
  | some r => f r.1 r.2.1 r.2.2
theorem ob_some {o : AR} {f : Int32 → List Nat → Bool → AR} {r : Int32 × List Nat × Bool} (h : ob o f = some r) : ∃ v t p, o = some (v, t, p) ∧ f v t p = some r := by
  cases o with
  | none => cases h
  | some q => exact ⟨q.1, q.2.1, q.2.2, rfl, h⟩
def chC (rec : Nat → Int32 → List Nat → Bool → AR) (k n e : Nat) (q : Bool) (body : Nat) (x : Int32) (tr : List Nat) : AR :=
  if body = 10 then some (x + nI n * 3, tr, false) else
  if body = 11 then ob (rec (ownN k 0) (x) tr false) fun v t p => some (v - nI e, t, p) else
  if body = 12 then (if q = true then some (0, tr, true) else some (x / (nI e - nI n), tr, false)) else
  if body = 13 then ob (rec (ownN k 1) (x) tr false) fun v t p => some (v ^^^ 9, t, p) else
  if body = 20 then ob (rec 11 (x) tr false) fun v t p => some (v * 2, t, p) else
  if body = 30 then ob (rec 10 (x) tr false) fun v t p => some (v + 1, t, p) else
  if body = 31 then ob (rec 13 x tr false) fun v t p => ob (rec (ownN k 2) (nI n) t p) fun v2 t2 p2 => some (v - v2, t2, p2) else
  if body = 40 then ob (rec 30 (x) tr false) fun v t p => some (0 - v, t, p) else
  if body = 41 then ob (rec 11 x tr false) fun v t p => ob (rec (ownN k 0) (nI e) t p) fun v2 t2 p2 => some (v + v2, t2, p2) else
  if body = 50 then ob (rec 12 (x * 4) tr false) fun v t p => some (v - nI e, t, p) else
  if body = 51 then ob (rec 10 (x) tr false) fun v t p => some (v ^^^ nI n, t, p) else
  if body = 60 then ob (rec 13 (x) tr false) fun v t p => some (50 - v, t, p) else
  if body = 61 then ob (rec 12 x tr false) fun v t p => ob (rec (ownN k 0) (nI n) t p) fun v2 t2 p2 => some (v + v2, t2, p2) else
  none
def cRun (k n e : Nat) (q : Bool) : Nat → Nat → Int32 → List Nat → Bool → AR
  | 0 => fun _ _ _ _ => none
  | f + 1 => fun body x tr pa => if pa = true then some (0, tr, pa) else if tr.length < 30 then chC (cRun k n e q f) k n e q body x (tr ++ [body]) else none
/-- the acting thing's cell -/
def AC (s : St) (a : Nat) (tr : List Nat) (pa : Bool) (k n e : Nat) : Prop := gF s a 1 = nI tr.length ∧ tr.length ≤ 30 ∧ (∀ i, i < tr.length → gA s (a + 1) i = nI (tr.getD i 0)) ∧ gF s a 2 = nI n ∧ gF s a 3 = nI k ∧ gF s a 4 = nI e ∧ gF s a 5 = bI pa
def wAc (a : Nat) : Nat → Prop := fun k => k = a ∨ k = a + 1
theorem own_t : ∀ k, k < 6 → ∀ w, w < 4 → gd (ib (nI k * (4 : Int32) + nI w) 24) (some (stV 3 (ix (nI k * (4 : Int32) + nI w)))) = some (nI (ownN k w)) := by decide +kernel
theorem own_e {s : St} {a k : Nat} (h : gF s a 3 = nI k) (hk : k < 6) {w : Nat} (hw : w < 4) : f_X0_own a (nI w) s = some (nI (ownN k w)) := by
  unfold f_X0_own
  rw [h]
  exact own_t k hk w hw
theorem ene : ∀ e, e < 10 → ∀ n, n < 8 → ((nI e - nI n = 0) ↔ e = n) ∧ ((nI e = nI n) ↔ e = n) := by decide +kernel
theorem getD_app (tr : List Nat) (x i : Nat) : (tr ++ [x]).getD i 0 = if i < tr.length then tr.getD i 0 else if i = tr.length then x else 0 := by
  rw [List.getD_eq_getElem?_getD, List.getD_eq_getElem?_getD]
  by_cases h : i < tr.length
  · rw [if_pos h, List.getElem?_append_left h]
  · rw [if_neg h, List.getElem?_append_right (by omega)]
    by_cases h2 : i = tr.length
    · rw [if_pos h2, h2, Nat.sub_self]; rfl
    · rw [if_neg h2]
      obtain ⟨j, hj⟩ : ∃ j, i - tr.length = j + 1 := ⟨i - tr.length - 1, by omega⟩
      rw [hj]; rfl
section ACT
variable {s : St} {a b d k n e : Nat} {q : Bool} {m : MS}
theorem note_ok {tr : List Nat} {pa : Bool} (h : AC s a tr pa k n e) (hl : tr.length < 30) (x : Nat) : ∃ s', f_X0_note a (nI x) s = some s' ∧ AC s' a (tr ++ [x]) pa k n e ∧ Fr (wAc a) s s' := by
  obtain ⟨h1, h2, h3, h4, h5, h6, h7⟩ := h
  have el : (tr ++ [x]).length = tr.length + 1 := by simp
  refine ⟨pF (pA s (a + 1) tr.length (nI x)) a 1 (nI (tr.length + 1)), ?_, ⟨?_, by omega, fun i hi => ?_, ?_, ?_, ?_, ?_⟩, (Fr.pA (Or.inr rfl)).tr (Fr.pF (Or.inl rfl))⟩
  · unfold f_X0_note
    rw [h1, if_neg (by rw [li_30]; exact nI_ge hl (by omega)), gd_n hl (by omega), ix_n (by omega), bn_e, bn_e, gF_pA, h1, nI_1]
  · rw [gF_pF, if_pos ⟨rfl, rfl⟩, el]
  · rw [gA_pF, gA_pA, getD_app]
    by_cases y : i = tr.length
    · rw [if_pos ⟨rfl, y⟩, if_neg (by omega), if_pos y]
    · rw [if_neg (fun t => y t.2), if_pos (by omega)]; exact h3 i (by omega)
  · rw [gF_pF, if_neg (by omega)]; exact h4
  · rw [gF_pF, if_neg (by omega)]; exact h5
  · rw [gF_pF, if_neg (by omega)]; exact h6
  · rw [gF_pF, if_neg (by omega)]; exact h7
/-- what a body does once it has begun -/
def chX0 (n b : Nat) (a1 a2 x2 : Int32) (s1 : St) : Option (Int32 × St) := (if a1 = (10 : Int32) then some ((a2 + ((gF s1 b 2) * (3 : Int32))), s1) else if a1 = (11 : Int32) then cp (f_X0_own b (0 : Int32) s1) fun x3 => cb (f_X0_run n b x3 a2 x2 s1) fun x5 s4 => some ((x5 - (gF s4 b 4)), s4) else if a1 = (12 : Int32) then cb (f_X0_part b a2 s1) fun x7 s6 => some (x7, s6) else if a1 = (13 : Int32) then cp (f_X0_own b (1 : Int32) s1) fun x8 => cb (f_X0_run n b x8 a2 x2 s1) fun x10 s9 => some ((x10 ^^^ (9 : Int32)), s9) else if a1 = (20 : Int32) then cb (f_X0_run n b (11 : Int32) a2 x2 s1) fun x12 s11 => some ((x12 * (2 : Int32)), s11) else if a1 = (30 : Int32) then cb (f_X0_run n b (10 : Int32) a2 x2 s1) fun x14 s13 => some ((x14 + (1 : Int32)), s13) else if a1 = (31 : Int32) then cb (f_X0_run n b (13 : Int32) a2 x2 s1) fun x16 s15 => cp (f_X0_own b (2 : Int32) s15) fun x17 => cb (f_X0_run n b x17 (gF s15 b 2) x2 s15) fun x19 s18 => some ((x16 - x19), s18) else if a1 = (40 : Int32) then cb (f_X0_run n b (30 : Int32) a2 x2 s1) fun x21 s20 => some (((0 : Int32) - x21), s20) else if a1 = (41 : Int32) then cb (f_X0_run n b (11 : Int32) a2 x2 s1) fun x23 s22 => cp (f_X0_own b (0 : Int32) s22) fun x24 => cb (f_X0_run n b x24 (gF s22 b 4) x2 s22) fun x26 s25 => some ((x23 + x26), s25) else if a1 = (50 : Int32) then cb (f_X0_run n b (12 : Int32) (a2 * (4 : Int32)) x2 s1) fun x28 s27 => some ((x28 - (gF s27 b 4)), s27) else if a1 = (51 : Int32) then cb (f_X0_run n b (10 : Int32) a2 x2 s1) fun x30 s29 => some ((x30 ^^^ (gF s29 b 2)), s29) else if a1 = (60 : Int32) then cb (f_X0_run n b (13 : Int32) a2 x2 s1) fun x32 s31 => some (((50 : Int32) - x32), s31) else if a1 = (61 : Int32) then cb (f_X0_run n b (12 : Int32) a2 x2 s1) fun x34 s33 => cp (f_X0_own b (0 : Int32) s33) fun x35 => cb (f_X0_run n b x35 (gF s33 b 2) x2 s33) fun x37 s36 => some ((x34 + x37), s36) else some ((0 : Int32), s1))
theorem run_go {tr : List Nat} (h : AC s a tr false k n e) (hl : tr.length < 30) (body : Nat) {dep : Nat} (hd : dep ≤ 40) (g : Nat) (x : Int32) : ∃ s1, f_X0_run (g + 1) a (nI body) x (nI dep) s = chX0 g a (nI body) x (nI (dep + 1)) s1 ∧ AC s1 a (tr ++ [body]) false k n e ∧ Fr (wAc a) s s1 := by
  obtain ⟨s1, e1, h1, f1⟩ := note_ok h hl body
  refine ⟨s1, ?_, h1, f1⟩
  show (if gF s a 5 = 0 then _ else _) = _
  rw [h.2.2.2.2.2.2, if_pos bf_eq, if_pos (by rw [li_40]; exact nI_le hd (by omega)), e1, cw_s, bn_e, nI_1]
  rfl
theorem part_ok {tr : List Nat} (h : AC s a tr false k n e) (he : e < 10) (hn : n < 8) (x : Int32) : ∃ s', f_X0_part a x s = some ((if decide (e = n) = true then 0 else x / (nI e - nI n)), s') ∧ AC s' a tr (decide (e = n)) k n e ∧ Fr (wAc a) s s' := by
  obtain ⟨h1, h2, h3, h4, h5, h6, h7⟩ := h
  obtain ⟨z1, z2⟩ := ene e he n hn
  unfold f_X0_part
  rw [h6, h4]
  by_cases y : e = n
  · rw [if_pos (z2.mpr y), bn_e, decide_eq_true y, if_pos rfl]
    refine ⟨_, rfl, ⟨?_, h2, h3, ?_, ?_, ?_, ?_⟩, Fr.pF (Or.inl rfl)⟩
    · rw [gF_pF, if_neg (by omega)]; exact h1
    · rw [gF_pF, if_neg (by omega)]; exact h4
    · rw [gF_pF, if_neg (by omega)]; exact h5
    · rw [gF_pF, if_neg (by omega)]; exact h6
    · rw [gF_pF, if_pos ⟨rfl, rfl⟩]; rfl
  · rw [if_neg (fun t => y (z2.mp t)), if_neg (fun t => y (z1.mp t)), decide_eq_false y, if_neg Bool.false_ne_true]
    exact ⟨s, rfl, ⟨h1, h2, h3, h4, h5, h6, h7⟩, Fr.rf⟩
theorem run_ok (hk : k < 6) (he : e < 10) (hn : n < 8) : ∀ (f g body : Nat) (x : Int32) (dep : Nat) (s : St) (tr : List Nat) (pa : Bool) (v : Int32) (tr' : List Nat) (pa' : Bool), f ≤ g → dep + f ≤ 41 → AC s a tr pa k n e → cRun k n e (decide (e = n)) f body x tr pa = some (v, tr', pa') → ∃ s', f_X0_run g a (nI body) x (nI dep) s = some (v, s') ∧ AC s' a tr' pa' k n e ∧ Fr (wAc a) s s' := by
  intro f
  induction f with
  | zero => intro g body x dep s tr pa v tr' pa' _ _ _ h; cases h
  | succ f ih =>
    intro g body x dep s tr pa v tr' pa' hg hdp hA h
    obtain ⟨g, rfl⟩ : ∃ j, g = j + 1 := ⟨g - 1, by omega⟩
    have h' : (if pa = true then some (0, tr, pa) else if tr.length < 30 then chC (cRun k n e (decide (e = n)) f) k n e (decide (e = n)) body x (tr ++ [body]) else none) = some (v, tr', pa') := h
    cases pa
    · rw [if_neg Bool.false_ne_true] at h'
      by_cases hl : tr.length < 30
      · rw [if_pos hl] at h'
        obtain ⟨s1, e1, A1, f1⟩ := run_go hA hl body (dep := dep) (by omega) g x
        rw [e1]
        unfold chC at h'

        by_cases y10 : body = 10
        · subst y10
          rw [if_pos rfl] at h'
          unfold chX0
          cases h'
          exact ⟨s1, by rw [if_pos (by decide), A1.2.2.2.1], A1, f1⟩
        rw [if_neg y10] at h'
        by_cases y11 : body = 11
        · subst y11
          rw [if_pos rfl] at h'
          unfold chX0
          obtain ⟨v1, t1, p1, h1, h2⟩ := ob_some h'
          cases h2
          obtain ⟨s2, e2, A2, f2⟩ := ih g (ownN k 0) (x) (dep + 1) s1 _ _ _ _ _ (by omega) (by omega) A1 h1
          exact ⟨s2, by rw [if_neg (by decide), if_pos (by decide), show f_X0_own a (0 : Int32) s1 = some (nI (ownN k 0)) from own_e (w := 0) A1.2.2.2.2.1 hk (by decide), cp_s, e2, cb_s, A2.2.2.2.2.2.1], A2, f1.tr f2⟩
        rw [if_neg y11] at h'
        by_cases y12 : body = 12
        · subst y12
          rw [if_pos rfl] at h'
          unfold chX0
          obtain ⟨s2, e2, A2, f2⟩ := part_ok A1 he hn x
          refine ⟨s2, ?_, ?_, f1.tr f2⟩
          · rw [if_neg (by decide), if_neg (by decide), if_pos (by decide), e2, cb_s]
            cases hq : decide (e = n)
            · rw [hq, if_neg Bool.false_ne_true] at h'; cases h'; rw [if_neg Bool.false_ne_true]
            · rw [hq, if_pos rfl] at h'; cases h'; rw [if_pos rfl]
          · cases hq : decide (e = n)
            · rw [hq, if_neg Bool.false_ne_true] at h'; cases h'; rw [hq] at A2; exact A2
            · rw [hq, if_pos rfl] at h'; cases h'; rw [hq] at A2; exact A2
        rw [if_neg y12] at h'
        by_cases y13 : body = 13
        · subst y13
          rw [if_pos rfl] at h'
          unfold chX0
          obtain ⟨v1, t1, p1, h1, h2⟩ := ob_some h'
          cases h2
          obtain ⟨s2, e2, A2, f2⟩ := ih g (ownN k 1) (x) (dep + 1) s1 _ _ _ _ _ (by omega) (by omega) A1 h1
          exact ⟨s2, by rw [if_neg (by decide), if_neg (by decide), if_neg (by decide), if_pos (by decide), show f_X0_own a (1 : Int32) s1 = some (nI (ownN k 1)) from own_e (w := 1) A1.2.2.2.2.1 hk (by decide), cp_s, e2, cb_s], A2, f1.tr f2⟩
        rw [if_neg y13] at h'
        by_cases y20 : body = 20
        · subst y20
          rw [if_pos rfl] at h'
          unfold chX0
          obtain ⟨v1, t1, p1, h1, h2⟩ := ob_some h'
          cases h2
          obtain ⟨s2, e2, A2, f2⟩ := ih g 11 (x) (dep + 1) s1 _ _ _ _ _ (by omega) (by omega) A1 h1
          exact ⟨s2, by rw [if_neg (by decide), if_neg (by decide), if_neg (by decide), if_neg (by decide), if_pos (by decide), show f_X0_run g a (11 : Int32) (x) (nI (dep + 1)) s1 = some (v1, s2) from e2, cb_s], A2, f1.tr f2⟩
        rw [if_neg y20] at h'
        by_cases y30 : body = 30
        · subst y30
          rw [if_pos rfl] at h'
          unfold chX0
          obtain ⟨v1, t1, p1, h1, h2⟩ := ob_some h'
          cases h2
          obtain ⟨s2, e2, A2, f2⟩ := ih g 10 (x) (dep + 1) s1 _ _ _ _ _ (by omega) (by omega) A1 h1
          exact ⟨s2, by rw [if_neg (by decide), if_neg (by decide), if_neg (by decide), if_neg (by decide), if_neg (by decide), if_pos (by decide), show f_X0_run g a (10 : Int32) (x) (nI (dep + 1)) s1 = some (v1, s2) from e2, cb_s], A2, f1.tr f2⟩
        rw [if_neg y30] at h'
        by_cases y31 : body = 31
        · subst y31
          rw [if_pos rfl] at h'
          unfold chX0
          obtain ⟨v1, t1, p1, h1, h2⟩ := ob_some h'
          obtain ⟨v2, t2, p2, h3, h4⟩ := ob_some h2
          cases h4
          obtain ⟨s2, e2, A2, f2⟩ := ih g 13 x (dep + 1) s1 _ _ _ _ _ (by omega) (by omega) A1 h1
          obtain ⟨s3, e3, A3, f3⟩ := ih g (ownN k 2) (nI n) (dep + 1) s2 _ _ _ _ _ (by omega) (by omega) A2 h3
          exact ⟨s3, by rw [if_neg (by decide), if_neg (by decide), if_neg (by decide), if_neg (by decide), if_neg (by decide), if_neg (by decide), if_pos (by decide), show f_X0_run g a (13 : Int32) x (nI (dep + 1)) s1 = some (v1, s2) from e2, cb_s, show f_X0_own a (2 : Int32) s2 = some (nI (ownN k 2)) from own_e (w := 2) A2.2.2.2.2.1 hk (by decide), cp_s, A2.2.2.2.1, e3, cb_s], A3, (f1.tr f2).tr f3⟩
        rw [if_neg y31] at h'
        by_cases y40 : body = 40
        · subst y40
          rw [if_pos rfl] at h'
          unfold chX0
          obtain ⟨v1, t1, p1, h1, h2⟩ := ob_some h'
          cases h2
          obtain ⟨s2, e2, A2, f2⟩ := ih g 30 (x) (dep + 1) s1 _ _ _ _ _ (by omega) (by omega) A1 h1
          exact ⟨s2, by rw [if_neg (by decide), if_neg (by decide), if_neg (by decide), if_neg (by decide), if_neg (by decide), if_neg (by decide), if_neg (by decide), if_pos (by decide), show f_X0_run g a (30 : Int32) (x) (nI (dep + 1)) s1 = some (v1, s2) from e2, cb_s], A2, f1.tr f2⟩
        rw [if_neg y40] at h'
        by_cases y41 : body = 41
        · subst y41
          rw [if_pos rfl] at h'
          unfold chX0
          obtain ⟨v1, t1, p1, h1, h2⟩ := ob_some h'
          obtain ⟨v2, t2, p2, h3, h4⟩ := ob_some h2
          cases h4
          obtain ⟨s2, e2, A2, f2⟩ := ih g 11 x (dep + 1) s1 _ _ _ _ _ (by omega) (by omega) A1 h1
          obtain ⟨s3, e3, A3, f3⟩ := ih g (ownN k 0) (nI e) (dep + 1) s2 _ _ _ _ _ (by omega) (by omega) A2 h3
          exact ⟨s3, by rw [if_neg (by decide), if_neg (by decide), if_neg (by decide), if_neg (by decide), if_neg (by decide), if_neg (by decide), if_neg (by decide), if_neg (by decide), if_pos (by decide), show f_X0_run g a (11 : Int32) x (nI (dep + 1)) s1 = some (v1, s2) from e2, cb_s, show f_X0_own a (0 : Int32) s2 = some (nI (ownN k 0)) from own_e (w := 0) A2.2.2.2.2.1 hk (by decide), cp_s, A2.2.2.2.2.2.1, e3, cb_s], A3, (f1.tr f2).tr f3⟩
        rw [if_neg y41] at h'
        by_cases y50 : body = 50
        · subst y50
          rw [if_pos rfl] at h'
          unfold chX0
          obtain ⟨v1, t1, p1, h1, h2⟩ := ob_some h'
          cases h2
          obtain ⟨s2, e2, A2, f2⟩ := ih g 12 (x * 4) (dep + 1) s1 _ _ _ _ _ (by omega) (by omega) A1 h1
          exact ⟨s2, by rw [if_neg (by decide), if_neg (by decide), if_neg (by decide), if_neg (by decide), if_neg (by decide), if_neg (by decide), if_neg (by decide), if_neg (by decide), if_neg (by decide), if_pos (by decide), show f_X0_run g a (12 : Int32) (x * 4) (nI (dep + 1)) s1 = some (v1, s2) from e2, cb_s, A2.2.2.2.2.2.1], A2, f1.tr f2⟩
        rw [if_neg y50] at h'
        by_cases y51 : body = 51
        · subst y51
          rw [if_pos rfl] at h'
          unfold chX0
          obtain ⟨v1, t1, p1, h1, h2⟩ := ob_some h'
          cases h2
          obtain ⟨s2, e2, A2, f2⟩ := ih g 10 (x) (dep + 1) s1 _ _ _ _ _ (by omega) (by omega) A1 h1
          exact ⟨s2, by rw [if_neg (by decide), if_neg (by decide), if_neg (by decide), if_neg (by decide), if_neg (by decide), if_neg (by decide), if_neg (by decide), if_neg (by decide), if_neg (by decide), if_neg (by decide), if_pos (by decide), show f_X0_run g a (10 : Int32) (x) (nI (dep + 1)) s1 = some (v1, s2) from e2, cb_s, A2.2.2.2.1], A2, f1.tr f2⟩
        rw [if_neg y51] at h'
        by_cases y60 : body = 60
        · subst y60
          rw [if_pos rfl] at h'
          unfold chX0
          obtain ⟨v1, t1, p1, h1, h2⟩ := ob_some h'
          cases h2
          obtain ⟨s2, e2, A2, f2⟩ := ih g 13 (x) (dep + 1) s1 _ _ _ _ _ (by omega) (by omega) A1 h1
          exact ⟨s2, by rw [if_neg (by decide), if_neg (by decide), if_neg (by decide), if_neg (by decide), if_neg (by decide), if_neg (by decide), if_neg (by decide), if_neg (by decide), if_neg (by decide), if_neg (by decide), if_neg (by decide), if_pos (by decide), show f_X0_run g a (13 : Int32) (x) (nI (dep + 1)) s1 = some (v1, s2) from e2, cb_s], A2, f1.tr f2⟩
        rw [if_neg y60] at h'
        by_cases y61 : body = 61
        · subst y61
          rw [if_pos rfl] at h'
          unfold chX0
          obtain ⟨v1, t1, p1, h1, h2⟩ := ob_some h'
          obtain ⟨v2, t2, p2, h3, h4⟩ := ob_some h2
          cases h4
          obtain ⟨s2, e2, A2, f2⟩ := ih g 12 x (dep + 1) s1 _ _ _ _ _ (by omega) (by omega) A1 h1
          obtain ⟨s3, e3, A3, f3⟩ := ih g (ownN k 0) (nI n) (dep + 1) s2 _ _ _ _ _ (by omega) (by omega) A2 h3
          exact ⟨s3, by rw [if_neg (by decide), if_neg (by decide), if_neg (by decide), if_neg (by decide), if_neg (by decide), if_neg (by decide), if_neg (by decide), if_neg (by decide), if_neg (by decide), if_neg (by decide), if_neg (by decide), if_neg (by decide), if_pos (by decide), show f_X0_run g a (12 : Int32) x (nI (dep + 1)) s1 = some (v1, s2) from e2, cb_s, show f_X0_own a (0 : Int32) s2 = some (nI (ownN k 0)) from own_e (w := 0) A2.2.2.2.2.1 hk (by decide), cp_s, A2.2.2.2.1, e3, cb_s], A3, (f1.tr f2).tr f3⟩
        rw [if_neg y61] at h'
        cases h'
      · rw [if_neg hl] at h'; cases h'
    · rw [if_pos rfl] at h'
      cases h'
      refine ⟨s, ?_, hA, Fr.rf⟩
      show (if gF s a 5 = 0 then _ else _) = _
      rw [hA.2.2.2.2.2.2, if_neg (by decide)]
end ACT
