/-! the reference's row, small functions -/
theorem r_in (x lo hi : Int64) : f_X4_in x lo hi = some (bI (decide (lo ≤ x ∧ x ≤ hi))) := by
  unfold f_X4_in
  simp only [lg_cmp_lt, lg_cmp_gt]
  by_cases h1 : x < lo
  · have h2 : ¬ lo ≤ x := by rw [Int64.le_iff_toInt_le]; rw [Int64.lt_iff_toInt_lt] at h1; omega
    simp [h1, h2, bI]
  · have h2 : lo ≤ x := by rw [Int64.le_iff_toInt_le]; rw [Int64.lt_iff_toInt_lt] at h1; omega
    by_cases h3 : hi < x
    · have h4 : ¬ x ≤ hi := by rw [Int64.le_iff_toInt_le]; rw [Int64.lt_iff_toInt_lt] at h3; omega
      simp [h1, h3, h4, bI]
    · have h4 : x ≤ hi := by rw [Int64.le_iff_toInt_le]; rw [Int64.lt_iff_toInt_lt] at h3; omega
      simp [h1, h2, h3, h4, bI]
theorem r_held (x : Nat) (h : x < 2 ^ 31) : f_X4_held (nI x) = some (nI (min 99 x)) := by
  unfold f_X4_held
  rw [if_pos (nI_pos' h), li_99]
  simp only [nI_leI h (show 99 < 2 ^ 31 by omega)]
  by_cases q : x ≤ 99
  · rw [if_pos q, show min 99 x = x by omega]
  · rw [if_neg q, show min 99 x = 99 by omega]
theorem r_held_m : ∀ a, a < 100 → ∀ l, l < 36 → f_X4_held (nI a + -(nI l - nI 5)) = some (nI (min 99 (a + 5 - l))) := by decide +kernel
/-- the reference at b holds m, with mu without effect -/
def MM (s : St) (b mu : Nat) (m : MS) : Prop := RM (gA s (b + 1)) m ∧ gF s b 4 = nI mu
section LEAFR
variable {s : St} {b mu : Nat} {m : MS}
theorem MM.fr {w : Nat → Prop} {t : St} (h : MM s b mu m) (f : Fr w s t) (hw : ¬ w b) (hw1 : ¬ w (b + 1)) : MM t b mu m := by
  have g : gA t (b + 1) = gA s (b + 1) := funext (f (b + 1) hw1).2.1
  exact ⟨by rw [g]; exact h.1, ((f b hw).1 4).trans h.2⟩
theorem RM.congr {f : Nat → Int32} {m' : MS} (h : RM f m) (e2 : m'.2 = m.2) (e0 : m'.1 0 0 = m.1 0 0) (e1 : ∀ i, i < 4 → m'.1 1 i = m.1 1 i) (eh : ∀ c, c < 32 → m'.1 2 c = m.1 2 c) (ew : ∀ c, c < 32 → m'.1 3 c = m.1 3 c) (ep : ∀ p, p < m.1 0 0 → m'.1 5 p = m.1 5 p ∧ m'.1 6 p = m.1 6 p ∧ m'.1 7 p = m.1 7 p ∧ m'.1 8 p = m.1 8 p) : RM f m' := by
  obtain ⟨h1, h2, h3, h4, h5, h6⟩ := h
  refine ⟨by rw [e2]; exact h1, by rw [e2]; exact h2, by rw [e0]; exact h3, fun i hi => by rw [e1 i hi]; exact h4 i hi, fun c hc => ⟨by rw [eh c hc]; exact (h5 c hc).1, by rw [ew c hc]; exact (h5 c hc).2⟩, fun p hp => ?_⟩
  rw [e0] at hp
  obtain ⟨x1, x2, x3, x4⟩ := ep p hp
  rw [x1, x2, x3, x4]
  exact h6 p hp
theorem MM.congW {f g : Nat → Nat} (h : MM s b mu (setR m 3 f)) (e : ∀ c, c < 32 → f c = g c) : MM s b mu (setR m 3 g) :=
  ⟨h.1.congr rfl rfl (fun _ _ => rfl) (fun _ _ => rfl) (fun c hc => (e c hc).symm) (fun _ _ => ⟨rfl, rfl, rfl, rfl⟩), h.2⟩
theorem MM.self3 (h : MM s b mu m) : MM s b mu (setR m 3 (m.1 3)) := ⟨h.1.congr rfl rfl (fun _ _ => rfl) (fun _ _ => rfl) (fun _ _ => rfl) (fun _ _ => ⟨rfl, rfl, rfl, rfl⟩), h.2⟩
theorem MM.congS {f g : Nat → Nat} (h : MM s b mu (setR m 7 f)) (e : ∀ p, p < m.1 0 0 → f p = g p) : MM s b mu (setR m 7 g) :=
  ⟨h.1.congr rfl rfl (fun _ _ => rfl) (fun _ _ => rfl) (fun _ _ => rfl) (fun p hp => ⟨rfl, rfl, (e p hp).symm, rfl⟩), h.2⟩
theorem MM.pW (h : MM s b mu m) (h8 : m.1 0 0 ≤ 8) {c v : Nat} (hc : c < 32) : MM (pA s (b + 1) (39 + c) (nI v)) b mu (setR m 3 (fun x => if x = c then v else m.1 3 x)) := by
  obtain ⟨⟨h1, h2, h3, h4, h5, h6⟩, h7⟩ := h
  refine ⟨⟨?_, ?_, ?_, fun i hi => ?_, fun x hx => ⟨?_, ?_⟩, fun p hp => ?_⟩, h7⟩
  · rw [gA_pA, if_neg (by omega)]; exact h1
  · rw [gA_pA, if_neg (by omega)]; exact h2
  · rw [gA_pA, if_neg (by omega)]; exact h3
  · rw [gA_pA, if_neg (by omega)]; exact h4 i hi
  · rw [gA_pA, if_neg (by omega)]; exact (h5 x hx).1
  · rw [gA_pA]
    show _ = nI (if x = c then v else m.1 3 x)
    by_cases q : x = c
    · rw [if_pos ⟨rfl, by omega⟩, if_pos q]
    · rw [if_neg (by omega), if_neg q]; exact (h5 x hx).2
  · obtain ⟨x1, x2, x3, x4⟩ := h6 p hp
    refine ⟨?_, ?_, ?_, ?_⟩ <;> rw [gA_pA, if_neg (by omega)] <;> assumption
theorem MM.pS (h : MM s b mu m) {p v : Nat} : MM (pA s (b + 1) (73 + 4 * p) (nI v)) b mu (setR m 7 (fun x => if x = p then v else m.1 7 x)) := by
  obtain ⟨⟨h1, h2, h3, h4, h5, h6⟩, h7⟩ := h
  refine ⟨⟨?_, ?_, ?_, fun i hi => ?_, fun x hx => ⟨?_, ?_⟩, fun x hx => ?_⟩, h7⟩
  · rw [gA_pA, if_neg (by omega)]; exact h1
  · rw [gA_pA, if_neg (by omega)]; exact h2
  · rw [gA_pA, if_neg (by omega)]; exact h3
  · rw [gA_pA, if_neg (by omega)]; exact h4 i hi
  · rw [gA_pA, if_neg (by omega)]; exact (h5 x hx).1
  · rw [gA_pA, if_neg (by omega)]; exact (h5 x hx).2
  · obtain ⟨x1, x2, x3, x4⟩ := h6 x hx
    refine ⟨?_, ?_, ?_, ?_⟩
    · rw [gA_pA, if_neg (by omega)]; exact x1
    · rw [gA_pA, if_neg (by omega)]; exact x2
    · rw [gA_pA]
      show _ = nI (if x = p then v else m.1 7 x)
      by_cases q : x = p
      · rw [if_pos ⟨rfl, by omega⟩, if_pos q]
      · rw [if_neg (by omega), if_neg q]; exact x3
    · rw [gA_pA, if_neg (by omega)]; exact x4
theorem ix71 (p j : Nat) : ((71 : Int32) + (4 : Int32) * nI p) + nI j = nI (71 + 4 * p + j) := by
  rw [show (4 : Int32) * nI p = nI (4 * p) from pk_mul 4 p, show (71 : Int32) + nI (4 * p) = nI (71 + 4 * p) from nI_add 71 _, nI_add]
theorem r_get {p : Nat} (hp : p < 8) (j : Nat) (hj : j < 4) : f_X4_get b (nI p) (nI j) s = some (gA s (b + 1) (71 + 4 * p + j)) := by
  unfold f_X4_get
  rw [ix71, gd_n (show 71 + 4 * p + j < 103 by omega) (by omega), ix_n (by omega)]
theorem r_g0 (h : MM s b mu m) (h8 : m.1 0 0 ≤ 8) {p : Nat} (hp : p < m.1 0 0) : f_X4_get b (nI p) (0 : Int32) s = some (nI (m.1 5 p)) := by
  rw [li_0, r_get (by omega) 0 (by omega)]; exact congrArg some (h.1.2.2.2.2.2 p hp).1
theorem r_g1 (h : MM s b mu m) (h8 : m.1 0 0 ≤ 8) {p : Nat} (hp : p < m.1 0 0) : f_X4_get b (nI p) (1 : Int32) s = some (nI (m.1 6 p)) := by
  rw [li_1, r_get (by omega) 1 (by omega), show 71 + 4 * p + 1 = 72 + 4 * p by omega]; exact congrArg some (h.1.2.2.2.2.2 p hp).2.1
theorem r_g2 (h : MM s b mu m) (h8 : m.1 0 0 ≤ 8) {p : Nat} (hp : p < m.1 0 0) : f_X4_get b (nI p) (2 : Int32) s = some (nI (m.1 7 p)) := by
  rw [li_2, r_get (by omega) 2 (by omega), show 71 + 4 * p + 2 = 73 + 4 * p by omega]; exact congrArg some (h.1.2.2.2.2.2 p hp).2.2.1
theorem r_g3 (h : MM s b mu m) (h8 : m.1 0 0 ≤ 8) {p : Nat} (hp : p < m.1 0 0) : f_X4_get b (nI p) (3 : Int32) s = some (nI (m.1 8 p)) := by
  rw [li_3, r_get (by omega) 3 (by omega), show 71 + 4 * p + 3 = 74 + 4 * p by omega]; exact congrArg some (h.1.2.2.2.2.2 p hp).2.2.2
theorem r_puts {p : Nat} (hp : p < 8) (j : Nat) (hj : j < 4) (x : Int32) : f_X4_puts b (nI p) (nI j) x s = some (pA s (b + 1) (71 + 4 * p + j) x) := by
  unfold f_X4_puts
  rw [ix71, gd_n (show 71 + 4 * p + j < 103 by omega) (by omega), ix_n (by omega), bn_e]
theorem r_p2 {p : Nat} (hp : p < 8) (x : Int32) : f_X4_puts b (nI p) (2 : Int32) x s = some (pA s (b + 1) (73 + 4 * p) x) := by
  rw [li_2, r_puts hp 2 (by omega), show 71 + 4 * p + 2 = 73 + 4 * p by omega]
theorem r_mute (h : MM s b mu m) (hmu : mu < 256) {p : Nat} (hp : p < 8) : (((gF s b 4) >>> (nI p &&& 31)) &&& (1 : Int32)) = bI (mu.testBit p) := by
  rw [h.2, bit_n (by omega) (by omega)]
theorem r_cix (k c : Nat) : nI k + nI c = nI (k + c) := nI_add k c
theorem r_isWet (h : MM s b mu m) (hb : BM m) {c : Nat} (hc : c < 32) : f_X4_isWet b (nI c) s = some (bI (decide (10 ≤ m.1 3 c))) := by
  have h9 := (hb.2.2.2.2.1 c hc).2
  unfold f_X4_isWet
  rw [show (39 : Int32) + nI c = nI (39 + c) from nI_add 39 c, gd_n (show 39 + c < 103 by omega) (by omega), ix_n (by omega), (h.1.2.2.2.2.1 c hc).2, li_10]
  simp (disch := omega) only [nI_ltI]
  rw [ite_bI']
  congr 2
  by_cases q : m.1 3 c < 10 <;> simp [q] <;> omega
theorem r_losesOf (h : MM s b mu m) (hb : BM m) {p : Nat} (hp : p < m.1 0 0) : f_X4_losesOf b (nI p) s = some (nI (l5S m p) - nI 5) := by
  have h8 := hb.1
  obtain ⟨b1, b2, b3, b4⟩ := hb.2.2.2.2.2 p hp
  unfold f_X4_losesOf l5S
  simp only [r_g0 h h8 hp, r_g1 h h8 hp, cp_s, sn_10 _ (show m.1 6 p < 10 by omega)]
  have hk : m.1 5 p = 0 ∨ m.1 5 p = 1 ∨ m.1 5 p = 2 ∨ m.1 5 p = 3 ∨ m.1 5 p = 4 ∨ m.1 5 p = 5 := by omega
  rcases hk with k | k | k | k | k | k <;> simp (decide := true) [k] <;> rfl
theorem r_winsOf (h : MM s b mu m) (hb : BM m) {p : Nat} (hp : p < m.1 0 0) : f_X4_winsOf b (nI p) s = some (nI (winS m p)) := by
  have h8 := hb.1
  obtain ⟨b1, b2, b3, b4⟩ := hb.2.2.2.2.2 p hp
  unfold f_X4_winsOf winS
  simp only [r_g0 h h8 hp, cp_s]
  have hk : m.1 5 p = 0 ∨ m.1 5 p = 1 ∨ m.1 5 p = 2 ∨ m.1 5 p = 3 ∨ m.1 5 p = 4 ∨ m.1 5 p = 5 := by omega
  rcases hk with k | k | k | k | k | k <;> simp (decide := true) [k] <;> rfl
theorem r_wells (h : MM s b mu m) (hb : BM m) (hmu : mu < 256) {p : Nat} (hp : p < m.1 0 0) : f_X4_wells b (nI p) s = some (nI (wellS mu m p)) := by
  have h8 := hb.1
  obtain ⟨b1, b2, b3, b4⟩ := hb.2.2.2.2.2 p hp
  have l0 := h.1.2.2.2.1 0 (by omega)
  have y0 := h.1.1
  unfold f_X4_wells
  simp only [r_mute h hmu (show p < 8 by omega), r_g0 h h8 hp, r_g1 h h8 hp, r_g2 h h8 hp, cp_s, bI_1, l0, y0, bn_e, li_50, nI_ltI (show m.1 7 p < 2 ^ 31 by omega) (show 50 < 2 ^ 31 by omega)]
  unfold wellS kindW doubS plainS evenY
  have hk : m.1 5 p = 0 ∨ m.1 5 p = 1 ∨ m.1 5 p = 2 ∨ m.1 5 p = 3 ∨ m.1 5 p = 4 ∨ m.1 5 p = 5 := by omega
  have z1 : nI (m.1 6 p) = 0 ↔ m.1 6 p = 0 := by rw [← nI_0]; exact nI_eq (by omega) (by omega)
  have z2 : nI (m.1 7 p) ≤ 0 ↔ m.1 7 p = 0 := by
    rw [← nI_0, nI_leI (by omega) (by omega)]; omega
  cases hm : mu.testBit p
  · by_cases a1 : m.1 7 p < 50
    · have a2 : ¬ 50 ≤ m.1 7 p := by omega
      by_cases a3 : m.1 7 p = 0
      · rcases hk with k | k | k | k | k | k <;> simp (decide := true) [k, a3] <;> rfl
      · have a4 : 0 < m.1 7 p := by omega
        rcases hk with k | k | k | k | k | k <;> simp (decide := true) [k, a1, a2, a3, a4, z2] <;> rfl
    · have a2 : 50 ≤ m.1 7 p := by omega
      have a3 : ¬ m.1 7 p = 0 := by omega
      have a4 : 0 < m.1 7 p := by omega
      by_cases a5 : m.1 6 p = 0
      · rcases hk with k | k | k | k | k | k <;> simp (decide := true) [k, a1, a2, a3, a4, a5, nI_0, z2] <;> rfl
      · rcases hk with k | k | k | k | k | k <;> simp (decide := true) [k, a1, a2, a3, a4, a5, z1, z2, dbl_n, nI_add, n_half (show m.1 6 p < 2 ^ 31 by omega)] <;> first | rfl | (split <;> rfl)
  · simp (decide := true)
theorem sub30 {x y : Nat} (hx : x ≤ 99) (hy : y ≤ 99) : ((30 : Int32) ≤ nI x - nI y) ↔ y + 30 ≤ x := by
  have e0 : (nI x - nI y).toInt = (x : Int) - y := pk_sub_toInt (by omega) (by omega)
  rw [Int32.le_iff_toInt_le, e0, show (30 : Int32).toInt = 30 from rfl]; omega
theorem sub30' {x y : Nat} (hx : x ≤ 99) (hy : y ≤ 99) : (nI x - nI y < (30 : Int32)) ↔ ¬ y + 30 ≤ x := by
  have e0 : (nI x - nI y).toInt = (x : Int) - y := pk_sub_toInt (by omega) (by omega)
  rw [Int32.lt_iff_toInt_lt, e0, show (30 : Int32).toInt = 30 from rfl]; omega
theorem r_doDisagree (h : MM s b mu m) (hb : BM m) (hmu : mu < 256) {p q : Nat} (hp : p < m.1 0 0) (hq : q < m.1 0 0) : f_X4_doDisagree b (nI p) (nI q) s = some (bI (decide (p ≠ q) && disS mu m p q)) := by
  have h8 := hb.1
  obtain ⟨b1, b2, b3, b4⟩ := hb.2.2.2.2.2 p hp
  obtain ⟨d1, d2, d3, d4⟩ := hb.2.2.2.2.2 q hq
  have z2 : ∀ n, n < 2 ^ 31 → (nI n ≤ 0 ↔ n = 0) := fun n hn => by
    rw [← nI_0, nI_leI (by omega) (by omega)]; omega
  unfold f_X4_doDisagree
  simp only [r_g2 h h8 hp, r_g2 h h8 hq, r_g3 h h8 hp, r_g3 h h8 hq, cp_s, r_mute h hmu (show p < 8 by omega), r_mute h hmu (show q < 8 by omega), bI_1, bn_e, nI_eq (show p < 2 ^ 31 by omega) (show q < 2 ^ 31 by omega), nI_eq (show m.1 8 p < 2 ^ 31 by omega) (show m.1 8 q < 2 ^ 31 by omega), sub30 b3 d3, sub30' d3 b3, z2 _ (show m.1 7 p < 2 ^ 31 by omega), z2 _ (show m.1 7 q < 2 ^ 31 by omega), disS]
  by_cases a0 : p = q
  · simp [a0, bI]
  · by_cases a1 : m.1 8 p = m.1 8 q <;> by_cases a2 : m.1 7 p = 0 <;> by_cases a3 : m.1 7 q = 0 <;> cases mu.testBit p <;> cases mu.testBit q <;> by_cases a4 : m.1 7 p + 30 ≤ m.1 7 q <;> by_cases a5 : m.1 7 q + 30 ≤ m.1 7 p <;> simp [a0, a1, a2, a3, a4, a5, bI, Nat.pos_iff_ne_zero]
/-- the heights alone -/
theorem r_lowStep {h : Nat → Nat} {K : Int32 → Int32 → Option Int32} {w : Int32} {x o : Nat} {ok : Bool} {t9 : Int32} (hx : h x ≤ 9) (ho : ok = true → o < 32 ∧ h o ≤ 9 ∧ t9 = nI o ∧ gA s (b + 1) (7 + o) = nI (h o)) :
    (if bI ok = 0 then K w (nI (h x)) else gd (ib ((7 : Int32) + t9) 103) (if nI (h x) ≤ (gA s (b + 1) (ix ((7 : Int32) + t9))) then K w (nI (h x)) else gd (ib ((7 : Int32) + t9) 103) (bn ((gA s (b + 1) (ix ((7 : Int32) + t9)))) fun x16 => K t9 x16))) = K (if ok = true ∧ h o < h x then nI o else w) (nI (h (lowStep h x ok o))) := by
  cases ok
  · simp [bI, lowStep]
  · obtain ⟨h1, h2, h3, h4⟩ := ho rfl
    rw [if_neg (by decide), h3, show (7 : Int32) + nI o = nI (7 + o) from nI_add 7 o, gd_n (show 7 + o < 103 by omega) (by omega), gd_n (show 7 + o < 103 by omega) (by omega), ix_n (by omega), h4, bn_e]
    simp only [nI_leI (show h x < 2 ^ 31 by omega) (show h o < 2 ^ 31 by omega)]
    unfold lowStep
    by_cases q : h x ≤ h o
    · have q2 : ¬ h o < h x := by omega
      simp [q, q2]
    · have q2 : h o < h x := by omega
      simp [q, q2]
end LEAFR
