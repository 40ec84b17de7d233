/-! what the Statement gives of the start, as the known part of it -/
abbrev gvC : List Cond := flatC (Jvm.Cond.and given_1 narrow_1)
abbrev tmS (i : Nat) : Term := .static "SpringOaths" (stn i) "[I"
abbrev tmK (i : Nat) : Term := .string "SpringOaths$Tape" (strK i)
theorem gs_lay : ∀ i, i < 4 → Cond.laysStatic "SpringOaths" (stn i) "[I" ∈ lw_tbl := by decide +kernel
theorem gs_arr : ∀ i, i < 4 → Cond.arrayOf (tmS i) .int ∈ gvC := by decide +kernel
theorem gs_len : ∀ i, i < 4 → Cond.eq (.length (tmS i)) (.int (Int32.ofNat (tabL i).length)) ∈ gvC ∧ (tabL i).length < 2 ^ 31 := by decide +kernel
theorem gs_el : ∀ i, i < 4 → ∀ j, j < (tabL i).length → Cond.eq (.elem (tmS i) (.int (Int32.ofNat j))) (.int (stV i j)) ∈ gvC := by decide +kernel
theorem gk_ex : ∀ i, i < 16 → Cond.exactly (tmK i) "java/lang/String" ∈ gvC ∧ strN.getD i 0 < 2 ^ 31 := by decide +kernel
theorem gk_co : ∀ i, i < 16 → Cond.eq (.field (tmK i) "java/lang/String" "coder" "B") (.int 0) ∈ gvC := by decide +kernel
theorem gk_ar : ∀ i, i < 16 → Cond.arrayOf (.field (tmK i) "java/lang/String" "value" "[B") .byte ∈ gvC := by decide +kernel
theorem gk_le : ∀ i, i < 16 → Cond.eq (.length (.field (tmK i) "java/lang/String" "value" "[B")) (.int (Int32.ofNat (strN.getD i 0))) ∈ gvC := by decide +kernel
theorem gk_el : ∀ i, i < 16 → ∀ j, j < strN.getD i 0 → Cond.eq (.elem (.field (tmK i) "java/lang/String" "value" "[B") (.int (Int32.ofNat j))) (.int ((strB.getD i []).getD j 0)) ∈ gvC := by decide +kernel
def isNt (w : Cond) : Bool := match w with
  | .not _ => true
  | _ => false
def ntP : List (Nat × Nat) := (List.range 16).flatMap (fun j => (List.range j).map (fun i => (i, j)))
theorem nt_f : (gvC.filter isNt).take 120 = ntP.map (fun q => Cond.not (Cond.eq (tmK q.1) (tmK q.2))) := by rfl
theorem nt_p : ∀ i, i < 16 → ∀ j, j < 16 → i < j → (i, j) ∈ ntP := fun i _ j hj h => List.mem_flatMap.mpr ⟨j, List.mem_range.mpr hj, List.mem_map.mpr ⟨i, List.mem_range.mpr h, rfl⟩⟩
theorem nt_m {i j : Nat} (hi : i < 16) (hj : j < 16) (h : i < j) : Cond.not (Cond.eq (tmK i) (tmK j)) ∈ gvC := by
  have h1 : Cond.not (Cond.eq (tmK i) (tmK j)) ∈ (gvC.filter isNt).take 120 := by
    rw [nt_f]
    exact List.mem_map.mpr ⟨(i, j), nt_p i hi j hj h, rfl⟩
  exact (List.mem_filter.mp (List.mem_of_mem_take h1)).1
theorem gk_ne : ∀ i, i < 16 → ∀ j, j < 16 → i ≠ j → Cond.not (Cond.eq (tmK i) (tmK j)) ∈ gvC ∨ Cond.not (Cond.eq (tmK j) (tmK i)) ∈ gvC := fun i hi j hj h => by
  rcases Nat.lt_or_gt_of_ne h with h | h
  · exact Or.inl (nt_m hi hj h)
  · exact Or.inr (nt_m hj hi h)
theorem gk_sr : ∀ i, i < 16 → Cond.stringRef "SpringOaths$Tape" (strK i) (strT i) ∈ lw_tbl := by decide +kernel
theorem gn_w : ∀ i, i < 6 → ∃ w, NW[i]? = some w ∧ w ∈ lw_tbl := by decide +kernel
theorem gn_in {w : Cond} (h : w ∈ NW) : w ∈ lw_tbl := by
  obtain ⟨i, hi⟩ := List.getElem?_of_mem h
  have hl : i < 6 := (List.getElem?_eq_some_iff.mp hi).1
  obtain ⟨w', h1, h2⟩ := gn_w i hl
  cases hi.symm.trans h1
  exact h2
theorem arr_k {s : State} {args : Array Value} {ty : FieldType} (h : (Cond.arrayClass ty).before args s = true) : ∃ c : ClassId, ArrOfT s c ty ∧ s.vm.findClass ("[" ++ ty.toString) = some c := by
  obtain ⟨c, k, comp, h1, h2, h3⟩ := Cond.arrayClass_spec h
  exact ⟨c, fun n z => ⟨fun q hq => (by cases hq), k, h2, comp, h3⟩, h1⟩
theorem arr_kk {s : State} {args : Array Value} {ty : FieldType} (h : (Cond.arrayOver (.array ty)).before args s = true) : ∃ c : ClassId, ArrOfT s c (.array ty) ∧ s.vm.findClass ("[" ++ (FieldType.array ty).toString) = some c := by
  obtain ⟨comp, c, k, h1, h2, h3, h4⟩ := Cond.arrayOver_specA h
  exact ⟨c, fun n z => ⟨fun q hq => (by cases hq), k, h2, comp, h3⟩, h4⟩
set_option maxHeartbeats 4000000 in
theorem gk_start {s : State} {b L : Nat} {xs : Nat → Int32} (hts : ∀ w ∈ lw_tbl, w.before #[Value.ref b] s = true) (hX : va_X b L xs s s.heap) (hbl : b < s.heap.size) (hgv : (Jvm.Cond.and given_1 narrow_1).before #[Value.ref b] s = true) : ∃ E : En, Eh s.heap.size E ∧ E.1 5000 = b ∧ Gk E (L, xs) (Ah s.heap.size) s s.heap := by
  have hs : ∀ w ∈ gvC, w.before #[Value.ref b] s = true := flat_of_before _ hgv
  have htB : ∀ w ∈ TB, w.before #[Value.ref b] s = true := fun w hw => hts w (List.mem_filter.mp hw).1
  have hA : ∀ a : Nat, a < s.heap.size → ¬ Ah s.heap.size a := fun a h q => Nat.not_le.mpr h q
  have st : ∀ i : Nat, ∃ t : Nat, i < 4 → (tmS i).eval #[Value.ref b] s none [] s = some (.ref t) ∧ va_T .int t (tabL i).length (fun j => .int (stV i j)) (Ah s.heap.size) s s.heap := fun i => by
    by_cases hi : i < 4
    · obtain ⟨t, h1, h2⟩ := va_Tof (tm := tmS i) (f := fun j => Value.int (stV i j)) (A := Ah s.heap.size) (gs_len i hi).2 (hs _ (gs_arr i hi)) (va_eqt (hs _ (gs_len i hi).1)) (fun j hj => va_eqt (hs _ (gs_el i hi j hj))) hA
      exact ⟨t, fun _ => ⟨h1, h2⟩⟩
    · exact ⟨0, fun h => absurd h hi⟩
  obtain ⟨t, ht⟩ := Classical.axiomOfChoice st
  obtain ⟨aK, aV, hk, he⟩ := vk_Sof (args := #[Value.ref b]) (s := s) (N := 16) (tm := tmK) (len := strN) (byt := strB) (A := Ah s.heap.size) (fun i hi => (gk_ex i hi).2) (fun i hi => hs _ (gk_ex i hi).1) (fun i hi => hs _ (gk_co i hi)) (fun i hi => hs _ (gk_ar i hi)) (fun i hi => hs _ (gk_le i hi)) (fun i hi j hj => hs _ (gk_el i hi j hj)) (fun i j hi hj hn => (gk_ne i hi j hj hn).imp (hs _) (hs _)) hA
  obtain ⟨u, hu⟩ : ∃ u : Nat, va_Z "jdk/internal/util/Preconditions" "SIOOBE_FORMATTER" "Ljava/util/function/BiFunction;" .null (Ah s.heap.size) s s.heap ∨ va_Z "jdk/internal/util/Preconditions" "SIOOBE_FORMATTER" "Ljava/util/function/BiFunction;" (.ref u) (Ah s.heap.size) s s.heap := by
    have h := va_Zqof (A := Ah s.heap.size) (hts (.laysStatic "jdk/internal/util/Preconditions" "SIOOBE_FORMATTER" "Ljava/util/function/BiFunction;") (by decide +kernel)) (hts (.initialized "jdk/internal/util/Preconditions") (by decide +kernel)) (hs (.isRef (.static "jdk/internal/util/Preconditions" "SIOOBE_FORMATTER" "Ljava/util/function/BiFunction;")) (by decide +kernel)) hA
    rcases h with h | ⟨u, h⟩
    · exact ⟨0, Or.inl h⟩
    · exact ⟨u, Or.inr h⟩
  obtain ⟨c0, i0, k0⟩ := u_known (C := RX0) (T := TX0) (N := 6) (n := 6) htB iX0 (hts (.instantiable RX0 6) (by decide +kernel))
  obtain ⟨c1, i1, k1⟩ := u_known (C := RX1) (T := TX1) (N := 12) (n := 12) htB iX1 (hts (.instantiable RX1 12) (by decide +kernel))
  obtain ⟨c2, i2, k2⟩ := u_known (C := RX2) (T := TX2) (N := 4) (n := 4) htB iX2 (hts (.instantiable RX2 4) (by decide +kernel))
  obtain ⟨c3, i3, k3⟩ := u_known (C := RX3) (T := TX3) (N := 14) (n := 14) htB iX3 (hts (.instantiable RX3 14) (by decide +kernel))
  obtain ⟨c4, i4, k4⟩ := u_known (C := RX4) (T := TX4) (N := 26) (n := 26) htB iX4 (hts (.instantiable RX4 26) (by decide +kernel))
  obtain ⟨a0, p0, q0⟩ := arr_k (hts (.arrayClass .int) (by decide +kernel))
  obtain ⟨a1, p1, q1⟩ := arr_k (hts (.arrayClass .byte) (by decide +kernel))
  obtain ⟨a2, p2, q2⟩ := arr_k (hts (.arrayClass .char) (by decide +kernel))
  obtain ⟨a3, p3, q3⟩ := arr_k (hts (.arrayClass .long) (by decide +kernel))
  obtain ⟨a4, p4, q4⟩ := arr_kk (hts (.arrayOver (.array .int)) (by decide +kernel))
  obtain ⟨a5, p5, q5⟩ := arr_kk (hts (.arrayOver (.array .long)) (by decide +kernel))
  obtain ⟨E, hE⟩ : ∃ E : En, E = ((fun k => if k < 1000 then s.heap.size + k else if k < 2000 then t (k - 1000) else if k < 3000 then aK (k - 2000) else if k < 4000 then aV (k - 3000) else if k < 5000 then u else b), ((fun k => match k with | 0 => c0 | 1 => c1 | 2 => c2 | 3 => c3 | _ => c4), (fun k => match k with | 0 => i0 | 1 => i1 | 2 => i2 | 3 => i3 | _ => i4)), (fun k => match k with | 0 => a0 | 1 => a1 | 2 => a2 | 3 => a3 | 4 => a4 | _ => a5)) := ⟨_, rfl⟩
  have e1 : ∀ i, i < 1000 → E.1 (1000 + i) = t i := fun i hi => by
    rw [hE]
    show (if 1000 + i < 1000 then _ else if 1000 + i < 2000 then t (1000 + i - 1000) else _) = _
    rw [if_neg (by omega), if_pos (by omega), Nat.add_sub_cancel_left]
  have e2 : ∀ i, i < 1000 → E.1 (2000 + i) = aK i := fun i hi => by
    rw [hE]
    show (if 2000 + i < 1000 then _ else if 2000 + i < 2000 then _ else if 2000 + i < 3000 then aK (2000 + i - 2000) else _) = _
    rw [if_neg (by omega), if_neg (by omega), if_pos (by omega), Nat.add_sub_cancel_left]
  have e3 : ∀ i, i < 1000 → E.1 (3000 + i) = aV i := fun i hi => by
    rw [hE]
    show (if 3000 + i < 1000 then _ else if 3000 + i < 2000 then _ else if 3000 + i < 3000 then _ else if 3000 + i < 4000 then aV (3000 + i - 3000) else _) = _
    rw [if_neg (by omega), if_neg (by omega), if_neg (by omega), if_pos (by omega), Nat.add_sub_cancel_left]
  have e4 : E.1 4000 = u := by rw [hE]; rfl
  have e5 : E.1 5000 = b := by rw [hE]; rfl
  refine ⟨E, fun k hk => by rw [hE]; exact if_pos hk, e5, ⟨?_, ?_⟩, fun i hi => ?_, ?_, ?_, ⟨fun i hi => ?_, fun i j hi hj h => ?_⟩, fun i hi => ?_, fun w hw => ?_, ?_⟩
  · intro c q hq
    rw [hE]
    match c, hq with
    | 0, hq => cases hq; exact k0
    | 1, hq => cases hq; exact k1
    | 2, hq => cases hq; exact k2
    | 3, hq => cases hq; exact k3
    | 4, hq => cases hq; exact k4
    | c + 5, hq => cases hq
  · intro k q hq
    rw [hE] at hq
    match k, hq with
    | 0, hq => cases hq; exact ⟨p0, q0⟩
    | 1, hq => cases hq; exact ⟨p1, q1⟩
    | 2, hq => cases hq; exact ⟨p2, q2⟩
    | 3, hq => cases hq; exact ⟨p3, q3⟩
    | 4, hq => cases hq; exact ⟨p4, q4⟩
    | 5, hq => cases hq; exact ⟨p5, q5⟩
    | k + 6, hq => cases hq
  · rw [e1 i (by omega)]
    exact ⟨va_Zof (hts _ (gs_lay i hi)) (hts (.initialized "SpringOaths") (by decide +kernel)) (ht i hi).1 hA, (ht i hi).2⟩
  · exact va_Zof (hts (.laysStatic "java/lang/String" "COMPACT_STRINGS" "Z") (by decide +kernel)) (hts (.initialized "java/lang/String") (by decide +kernel)) (va_eqi (hs (.eq (.static "java/lang/String" "COMPACT_STRINGS" "Z") (.int 1)) (by decide +kernel))) hA
  · rw [e4]; exact hu
  · dsimp only
    rw [e2 i (by omega), e3 i (by omega)]
    exact hk.1 i hi
  · dsimp only at h
    rw [e2 i (by omega), e2 j (by omega)] at h
    exact hk.2 i j hi hj h
  · rw [e2 i (by omega)]
    exact vk_R.of (hts _ (gk_sr i hi)) (he i hi)
  · exact va_Nw.of (NW_tabs hw) (hts w (gn_in hw))
  · rw [e5]
    obtain ⟨scr, h1, h2, h3, h4, h5⟩ := hX
    exact ⟨scr, h1, h2, h3, Nat.le_of_eq h4.symm, by rw [h4], h5, hA b hbl⟩
