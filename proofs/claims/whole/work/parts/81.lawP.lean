/-! the law over what both hold -/
theorem lg_self (x : Int64) : lg_cmp x x = 0 := (lg_cmp_eq x x).mpr rfl
theorem law_step (SH : SHT) (hN : SH.2.1 ≤ 2560) {c : Nat} (hc : c + 5 ≤ SH.2.1) (rec : Int32 → St → Option (Int32 × St)) {s : St} (h : INV s 0 53) : ∃ s2, INV s2 0 53 ∧ B_L_law_18 rec SH (nI c) s = rec (nI (c + 5)) s2 := by
  have hd : (53 : Nat) = 0 + 53 := rfl
  have g0 : ∀ {α : Type} (o : Option α), gd (ib (nI c) SH.2.1) o = o := fun o => gd_n (by omega) (by omega)
  have g1 : ∀ {α : Type} (o : Option α), gd (ib (nI c + (1 : Int32)) SH.2.1) o = o := fun o => by rw [li_1, nI_add]; exact gd_n (by omega) (by omega)
  have g2 : ∀ {α : Type} (o : Option α), gd (ib (nI c + (2 : Int32)) SH.2.1) o = o := fun o => by rw [li_2, nI_add]; exact gd_n (by omega) (by omega)
  have g3 : ∀ {α : Type} (o : Option α), gd (ib (nI c + (3 : Int32)) SH.2.1) o = o := fun o => by rw [li_3, nI_add]; exact gd_n (by omega) (by omega)
  have g4 : ∀ {α : Type} (o : Option α), gd (ib (nI c + (4 : Int32)) SH.2.1) o = o := fun o => by rw [li_4, nI_add]; exact gd_n (by omega) (by omega)
  have e5 : nI c + (5 : Int32) = nI (c + 5) := by rw [li_5, nI_add]
  have hle : ¬ (Int32.ofNat SH.2.1 - (5 : Int32)) < nI c := by
    show ¬ (nI SH.2.1 - nI 5) < nI c
    rw [Int32.lt_iff_toInt_lt, pk_sub_toInt (by omega) (by omega), nI_toInt (by omega)]
    omega
  unfold B_L_law_18
  rw [if_neg hle, g0, bn_e]
  generalize SH.2.2 (ix (nI c)) &&& (63 : Int32) = x4
  simp only [g1, g2, g3, g4, e5]
  by_cases y0 : x4 = (0 : Int32)
  · rw [if_pos y0]
    exact PR.go (i_feed hd h ((((SH.2.2 (ix (nI c + (1 : Int32))))).toInt64 <<< (((32 : Int32)).toInt64 &&& 63)) ||| (((SH.2.2 (ix (nI c + (2 : Int32))))).toInt64 &&& (4294967295 : Int64))) (SH.2.2 (ix (nI c + (3 : Int32))))) (fun x y => x = y) (fun x => rfl) (fun t => rec (nI (c + 5)) t) _
  rw [if_neg y0]
  by_cases y1 : x4 = (1 : Int32)
  · rw [if_pos y1]
    exact PR.go (i_moor hd h) (fun x y => x = y) (fun x => rfl) (fun t => rec (nI (c + 5)) t) _
  rw [if_neg y1]
  by_cases y2 : x4 = (2 : Int32)
  · rw [if_pos y2]
    exact PR.go (i_set hd h (SH.2.2 (ix (nI c + (1 : Int32)))) (SH.2.2 (ix (nI c + (2 : Int32))))) (fun x y => x = y) (fun x => rfl) (fun t => rec (nI (c + 5)) t) _
  rw [if_neg y2]
  by_cases y3 : x4 = (3 : Int32)
  · rw [if_pos y3]
    exact ⟨s, h, PP.go (i_lawOf h (SH.2.2 (ix (nI c + (1 : Int32))))) (fun x y => x = y) (fun x => rfl) _ _⟩
  rw [if_neg y3]
  by_cases y4 : x4 = (4 : Int32)
  · rw [if_pos y4]
    exact PR.go (i_person hd h (SH.2.2 (ix (nI c + (1 : Int32)))) (SH.2.2 (ix (nI c + (2 : Int32)))) (SH.2.2 (ix (nI c + (3 : Int32)))) (SH.2.2 (ix (nI c + (4 : Int32))))) (fun x y => x = y) (fun x => rfl) (fun t => rec (nI (c + 5)) t) _
  rw [if_neg y4]
  by_cases y5 : x4 = (5 : Int32)
  · rw [if_pos y5]
    exact ⟨s, h, PP.go (i_of h (SH.2.2 (ix (nI c + (1 : Int32)))) (SH.2.2 (ix (nI c + (2 : Int32))))) (fun x y => x = y) (fun x => rfl) _ _⟩
  rw [if_neg y5]
  by_cases y6 : x4 = (6 : Int32)
  · rw [if_pos y6]
    exact ⟨s, h, PP.go (i_loses h (SH.2.2 (ix (nI c + (1 : Int32))))) (fun x y => x = y) (fun x => rfl) _ _⟩
  rw [if_neg y6]
  by_cases y7 : x4 = (7 : Int32)
  · rw [if_pos y7]
    exact PR.go (i_mind hd h (SH.2.2 (ix (nI c + (1 : Int32)))) (SH.2.2 (ix (nI c + (2 : Int32)))) (SH.2.2 (ix (nI c + (3 : Int32))))) (fun x y => x = y) (fun x => rfl) (fun t => rec (nI (c + 5)) t) _
  rw [if_neg y7]
  by_cases y8 : x4 = (8 : Int32)
  · rw [if_pos y8]
    exact PR.go (i_sure hd h (SH.2.2 (ix (nI c + (1 : Int32)))) (SH.2.2 (ix (nI c + (2 : Int32))))) (fun x y => x = y) (fun x => rfl) (fun t => rec (nI (c + 5)) t) _
  rw [if_neg y8]
  by_cases y9 : x4 = (9 : Int32)
  · rw [if_pos y9]
    exact PR.go (i_bring hd h (SH.2.2 (ix (nI c + (1 : Int32)))) (SH.2.2 (ix (nI c + (2 : Int32))))) (fun x y => x = y) (fun x => rfl) (fun t => rec (nI (c + 5)) t) _
  rw [if_neg y9]
  by_cases y10 : x4 = (10 : Int32)
  · rw [if_pos y10]
    exact ⟨s, h, PP.go (i_cell h (SH.2.2 (ix (nI c + (1 : Int32)))) (SH.2.2 (ix (nI c + (2 : Int32))))) (fun x y => x = y) (fun x => rfl) _ _⟩
  rw [if_neg y10]
  by_cases y11 : x4 = (11 : Int32)
  · rw [if_pos y11]
    exact ⟨s, h, PP.go (i_lowest h (SH.2.2 (ix (nI c + (1 : Int32))))) (fun x y => x = y) (fun x => rfl) _ _⟩
  rw [if_neg y11]
  by_cases y12 : x4 = (12 : Int32)
  · rw [if_pos y12]
    exact PR.go (i_water hd h (SH.2.2 (ix (nI c + (1 : Int32)))) (SH.2.2 (ix (nI c + (2 : Int32))))) (fun x y => x = y) (fun x => rfl) (fun t => rec (nI (c + 5)) t) _
  rw [if_neg y12]
  by_cases y13 : x4 = (13 : Int32)
  · rw [if_pos y13]
    exact PR.go (i_height hd h (SH.2.2 (ix (nI c + (1 : Int32)))) (SH.2.2 (ix (nI c + (2 : Int32))))) (fun x y => x = y) (fun x => rfl) (fun t => rec (nI (c + 5)) t) _
  rw [if_neg y13]
  by_cases y14 : x4 = (14 : Int32)
  · rw [if_pos y14]
    exact ⟨s, h, PP.go (i_wets h (SH.2.2 (ix (nI c + (1 : Int32))))) (fun x y => lg_cmp x y = 0) (fun x => lg_self x) _ _⟩
  rw [if_neg y14]
  by_cases y15 : x4 = (15 : Int32)
  · rw [if_pos y15]
    exact PR.go (i_years hd h (SH.2.2 (ix (nI c + (1 : Int32))))) (fun x y => x = y) (fun x => rfl) (fun t => rec (nI (c + 5)) t) _
  rw [if_neg y15]
  by_cases y16 : x4 = (16 : Int32)
  · rw [if_pos y16]
    exact PR.go (i_seed hd h (SH.2.2 (ix (nI c + (1 : Int32))))) (fun x y => x = y) (fun x => rfl) (fun t => rec (nI (c + 5)) t) _
  rw [if_neg y16]
  by_cases y17 : x4 = (17 : Int32)
  · rw [if_pos y17]
    exact PR.go (i_year hd h) (fun x y => x = y) (fun x => rfl) (fun t => rec (nI (c + 5)) t) _
  rw [if_neg y17]
  by_cases y18 : x4 = (18 : Int32)
  · rw [if_pos y18]
    exact PR.go (i_revel hd h (SH.2.2 (ix (nI c + (1 : Int32))))) (fun x y => x = y) (fun x => rfl) (fun t => rec (nI (c + 5)) t) _
  rw [if_neg y18]
  by_cases y19 : x4 = (19 : Int32)
  · rw [if_pos y19]
    exact ⟨s, h, PP.go (i_state h (SH.2.2 (ix (nI c + (1 : Int32))))) (fun x y => x = y) (fun x => rfl) _ _⟩
  rw [if_neg y19]
  by_cases y20 : x4 = (20 : Int32)
  · rw [if_pos y20]
    exact PR.go (i_level hd h (SH.2.2 (ix (nI c + (1 : Int32)))) (SH.2.2 (ix (nI c + (2 : Int32))))) (fun x y => x = y) (fun x => rfl) (fun t => rec (nI (c + 5)) t) _
  rw [if_neg y20]
  by_cases y21 : x4 = (21 : Int32)
  · rw [if_pos y21]
    exact PR.go (i_damp hd h (SH.2.2 (ix (nI c + (1 : Int32))))) (fun x y => x = y) (fun x => rfl) (fun t => rec (nI (c + 5)) t) _
  rw [if_neg y21]
  by_cases y22 : x4 = (22 : Int32)
  · rw [if_pos y22]
    exact PR.go (i_loss hd h (SH.2.2 (ix (nI c + (1 : Int32))))) (fun x y => x = y) (fun x => rfl) (fun t => rec (nI (c + 5)) t) _
  rw [if_neg y22]
  by_cases y23 : x4 = (23 : Int32)
  · rw [if_pos y23]
    exact PR.go (i_drowned hd h) (fun x y => x = y) (fun x => rfl) (fun t => rec (nI (c + 5)) t) _
  rw [if_neg y23]
  by_cases y24 : x4 = (24 : Int32)
  · rw [if_pos y24]
    exact PR.go (i_whereFor hd h (SH.2.2 (ix (nI c + (1 : Int32)))) (SH.2.2 (ix (nI c + (2 : Int32)))) (SH.2.2 (ix (nI c + (3 : Int32))))) (fun x y => x = y) (fun x => rfl) (fun t => rec (nI (c + 5)) t) _
  rw [if_neg y24]
  by_cases y25 : x4 = (25 : Int32)
  · rw [if_pos y25]
    exact PR.go (i_kindFor hd h (SH.2.2 (ix (nI c + (1 : Int32)))) (SH.2.2 (ix (nI c + (2 : Int32)))) (SH.2.2 (ix (nI c + (3 : Int32))))) (fun x y => x = y) (fun x => rfl) (fun t => rec (nI (c + 5)) t) _
  rw [if_neg y25]
  by_cases y26 : x4 = (26 : Int32)
  · rw [if_pos y26]
    exact PR.go (i_annoyed hd h (SH.2.2 (ix (nI c + (1 : Int32)))) (SH.2.2 (ix (nI c + (2 : Int32)))) (SH.2.2 (ix (nI c + (3 : Int32))))) (fun x y => x = y) (fun x => rfl) (fun t => rec (nI (c + 5)) t) _
  rw [if_neg y26]
  by_cases y27 : x4 = (27 : Int32)
  · rw [if_pos y27]
    exact PR.go (i_needed hd h (SH.2.2 (ix (nI c + (1 : Int32)))) (SH.2.2 (ix (nI c + (2 : Int32))))) (fun x y => x = y) (fun x => rfl) (fun t => rec (nI (c + 5)) t) _
  rw [if_neg y27]
  by_cases y28 : x4 = (28 : Int32)
  · rw [if_pos y28]
    exact PR.go (i_fewest hd h (SH.2.2 (ix (nI c + (1 : Int32)))) (SH.2.2 (ix (nI c + (2 : Int32))))) (fun x y => x = y) (fun x => rfl) (fun t => rec (nI (c + 5)) t) _
  rw [if_neg y28]
  by_cases y29 : x4 = (29 : Int32)
  · rw [if_pos y29]
    exact ⟨s, h, PP.go (i_ends h (SH.2.2 (ix (nI c + (1 : Int32))))) (fun x y => x = y) (fun x => rfl) _ _⟩
  rw [if_neg y29]
  by_cases y30 : x4 = (30 : Int32)
  · rw [if_pos y30]
    exact PR.go (i_fits hd h (SH.2.2 (ix (nI c + (1 : Int32)))) (SH.2.2 (ix (nI c + (2 : Int32)))) (SH.2.2 (ix (nI c + (3 : Int32)))) (SH.2.2 (ix (nI c + (4 : Int32))))) (fun x y => x = y) (fun x => rfl) (fun t => rec (nI (c + 5)) t) _
  rw [if_neg y30]
  by_cases y31 : x4 = (31 : Int32)
  · rw [if_pos y31]
    exact ⟨s, h, PP.go (i_odds h (SH.2.2 (ix (nI c + (1 : Int32)))) (SH.2.2 (ix (nI c + (2 : Int32)))) (SH.2.2 (ix (nI c + (3 : Int32))))) (fun x y => lg_cmp x y = 0) (fun x => lg_self x) _ _⟩
  rw [if_neg y31]
  by_cases y32 : x4 = (32 : Int32)
  · rw [if_pos y32]
    exact ⟨s, h, PP.go (i_hope h (SH.2.2 (ix (nI c + (1 : Int32)))) (SH.2.2 (ix (nI c + (2 : Int32))))) (fun x y => lg_cmp x y = 0) (fun x => lg_self x) _ _⟩
  rw [if_neg y32]
  by_cases y33 : x4 = (33 : Int32)
  · rw [if_pos y33]
    exact PR.go (i_prove hd h (SH.2.2 (ix (nI c + (1 : Int32)))) (SH.2.2 (ix (nI c + (2 : Int32))))) (fun x y => x = y) (fun x => rfl) (fun t => rec (nI (c + 5)) t) _
  rw [if_neg y33]
  by_cases y34 : x4 = (34 : Int32)
  · rw [if_pos y34]
    exact ⟨s, h, PP.go (i_row h (SH.2.2 (ix (nI c + (1 : Int32)))) (SH.2.2 (ix (nI c + (2 : Int32))))) (fun x y => x = y) (fun x => rfl) _ _⟩
  rw [if_neg y34]
  by_cases y35 : x4 = (35 : Int32)
  · rw [if_pos y35]
    exact PR.go (i_alterRow hd h (SH.2.2 (ix (nI c + (1 : Int32)))) (SH.2.2 (ix (nI c + (2 : Int32)))) (SH.2.2 (ix (nI c + (3 : Int32))))) (fun x y => x = y) (fun x => rfl) (fun t => rec (nI (c + 5)) t) _
  rw [if_neg y35]
  by_cases y36 : x4 = (36 : Int32)
  · rw [if_pos y36]
    exact PR.go (i_judge hd h (SH.2.2 (ix (nI c + (1 : Int32))))) (fun x y => x = y) (fun x => rfl) (fun t => rec (nI (c + 5)) t) _
  rw [if_neg y36]
  by_cases y37 : x4 = (37 : Int32)
  · rw [if_pos y37]
    exact PR.go (i_minds hd h (SH.2.2 (ix (nI c + (1 : Int32)))) (SH.2.2 (ix (nI c + (2 : Int32)))) (SH.2.2 (ix (nI c + (3 : Int32)))) (SH.2.2 (ix (nI c + (4 : Int32))))) (fun x y => x = y) (fun x => rfl) (fun t => rec (nI (c + 5)) t) _
  rw [if_neg y37]
  by_cases y38 : x4 = (38 : Int32)
  · rw [if_pos y38]
    exact PR.go (i_sheet hd h (SH.2.2 (ix (nI c + (1 : Int32)))) (SH.2.2 (ix (nI c + (2 : Int32)))) (SH.2.2 (ix (nI c + (3 : Int32))))) (fun x y => x = y) (fun x => rfl) (fun t => rec (nI (c + 5)) t) _
  rw [if_neg y38]
  by_cases y39 : x4 = (39 : Int32)
  · rw [if_pos y39]
    exact PR.go (i_put hd h (SH.2.2 (ix (nI c + (1 : Int32)))) (SH.2.2 (ix (nI c + (2 : Int32)))) (SH.2.2 (ix (nI c + (3 : Int32))))) (fun x y => x = y) (fun x => rfl) (fun t => rec (nI (c + 5)) t) _
  rw [if_neg y39]
  by_cases y40 : x4 = (40 : Int32)
  · rw [if_pos y40]
    exact ⟨s, h, PP.go (i_item h (SH.2.2 (ix (nI c + (1 : Int32)))) (SH.2.2 (ix (nI c + (2 : Int32)))) (SH.2.2 (ix (nI c + (3 : Int32))))) (fun x y => x = y) (fun x => rfl) _ _⟩
  rw [if_neg y40]
  by_cases y41 : x4 = (41 : Int32)
  · rw [if_pos y41]
    exact PR.go (i_shelf hd h (SH.2.2 (ix (nI c + (1 : Int32)))) (SH.2.2 (ix (nI c + (2 : Int32)))) (SH.2.2 (ix (nI c + (3 : Int32))))) (fun x y => x = y) (fun x => rfl) (fun t => rec (nI (c + 5)) t) _
  rw [if_neg y41]
  by_cases y42 : x4 = (42 : Int32)
  · rw [if_pos y42]
    exact ⟨s, h, PP.go (i_taken h (SH.2.2 (ix (nI c + (1 : Int32)))) (SH.2.2 (ix (nI c + (2 : Int32))))) (fun x y => x = y) (fun x => rfl) _ _⟩
  rw [if_neg y42]
  by_cases y43 : x4 = (43 : Int32)
  · rw [if_pos y43]
    exact PR.go (i_act hd h (SH.2.2 (ix (nI c + (1 : Int32)))) (SH.2.2 (ix (nI c + (2 : Int32)))) (SH.2.2 (ix (nI c + (3 : Int32))))) (fun x y => x = y) (fun x => rfl) (fun t => rec (nI (c + 5)) t) _
  rw [if_neg y43]
  by_cases y44 : x4 = (44 : Int32)
  · rw [if_pos y44]
    exact ⟨s, h, PP.go (i_trace h (SH.2.2 (ix (nI c + (1 : Int32))))) (fun x y => x = y) (fun x => rfl) _ _⟩
  rw [if_neg y44]
  by_cases y45 : x4 = (45 : Int32)
  · rw [if_pos y45]
    exact ⟨s, h, PP.go (i_many h (SH.2.2 (ix (nI c + (1 : Int32))))) (fun x y => x = y) (fun x => rfl) _ _⟩
  rw [if_neg y45]
  by_cases y46 : x4 = (46 : Int32)
  · rw [if_pos y46]
    exact PR.go (i_keep hd h) (fun x y => x = y) (fun x => rfl) (fun t => rec (nI (c + 5)) t) _
  rw [if_neg y46]
  by_cases y47 : x4 = (47 : Int32)
  · rw [if_pos y47]
    exact PR.go (i_again hd h) (fun x y => x = y) (fun x => rfl) (fun t => rec (nI (c + 5)) t) _
  rw [if_neg y47]
  exact ⟨s, h, rfl⟩
theorem law_pure (SH : SHT) (hN : SH.2.1 ≤ 2560) {s : St} (h : INV s 0 53) : ∃ s', f_L_law SH s = some ((1 : Int32), s') := by
  have key : ∀ (k c n : Nat) (s : St), SH.2.1 < c + 5 * k + 5 → k < n → c ≤ SH.2.1 → INV s 0 53 → ∃ s', L_L_law_18 SH n (nI c) s = some ((1 : Int32), s') := by
    intro k
    induction k with
    | zero =>
      intro c n s hk hn hc h
      obtain ⟨n, rfl⟩ : ∃ j, n = j + 1 := ⟨n - 1, by omega⟩
      refine ⟨s, ?_⟩
      show B_L_law_18 _ SH (nI c) s = _
      unfold B_L_law_18
      rw [if_pos (show (Int32.ofNat SH.2.1 - (5 : Int32)) < nI c from (by rw [Int32.lt_iff_toInt_lt, pk_sub_toInt (by omega) (by omega), nI_toInt (by omega)]; omega : (nI SH.2.1 - nI 5) < nI c))]
    | succ k ih =>
      intro c n s hk hn hc h
      obtain ⟨n, rfl⟩ : ∃ j, n = j + 1 := ⟨n - 1, by omega⟩
      by_cases z : c + 5 ≤ SH.2.1
      · obtain ⟨s2, h2, e2⟩ := law_step SH hN z (L_L_law_18 SH n) h
        obtain ⟨s', e'⟩ := ih (c + 5) n s2 (by omega) (by omega) z h2
        exact ⟨s', e2.trans e'⟩
      · refine ⟨s, ?_⟩
        show B_L_law_18 _ SH (nI c) s = _
        unfold B_L_law_18
        rw [if_pos (show (Int32.ofNat SH.2.1 - (5 : Int32)) < nI c from (by rw [Int32.lt_iff_toInt_lt, pk_sub_toInt (by omega) (by omega), nI_toInt (by omega)]; omega : (nI SH.2.1 - nI 5) < nI c))]
  obtain ⟨s', e'⟩ := key 512 0 FU s (by omega) (by show 512 < 1000; omega) (by omega) h
  rw [nI_0] at e'
  exact ⟨s', e'⟩
