/-! String's own methods over the constants -/
theorem ib_nI {x : Int32} {n : Nat} (h : ib x n = true) (hn : n < 2 ^ 31) : ∃ j : Nat, j < n ∧ x = nI j := vp_in_of (ib_in h) hn
theorem ct_J0_coder {SH : SHT} (i : Nat) (hi : i < 16) (s0 : St) : CT yJ0_coder_7d493 mJ0_coder_7d493 0 SH (jP s0) [.ref (2000 + i)] s0 (some 0) := CT.of (by decide +kernel) rfl (fun E => Nat.le_of_ble_eq_true rfl) (show VF mJ0_coder_7d493 0 SH (jP s0) 0 [(0, .ref (2000 + i))] [] s0 (some 0) from by
  refine v_compact dJ0_coder_7d493_0 kb_J0_38 ?_
  refine v_ite (c := (1 : Int32) = 0) (by decide) (v_if_eq (tgt := 13) dJ0_coder_7d493_3 (by decide) (fun h => absurd h (by decide)) (fun _ => ?_))
  refine v_aload_n dJ0_coder_7d493_6 rfl rfl ?_
  refine v_strcod dJ0_coder_7d493_7 kb_J0_15 hi rfl ?_
  refine v_goto (tgt := 14) dJ0_coder_7d493_10 (by decide) ?_
  exact v_ret (ty := .byte) dJ0_coder_7d493_14 rfl rfl (by decide +kernel))
theorem ct_J0_isLatin1 {SH : SHT} (i : Nat) (hi : i < 16) (s0 : St) : CT yJ0_isLatin1_aae02 mJ0_isLatin1_aae02 0 SH (jP s0) [.ref (2000 + i)] s0 (some 1) := CT.of (by decide +kernel) rfl (fun E => Nat.le_of_ble_eq_true rfl) (show VF mJ0_isLatin1_aae02 0 SH (jP s0) 0 [(0, .ref (2000 + i))] [] s0 (some 1) from by
  refine v_compact dJ0_isLatin1_aae02_0 kb_J0_38 ?_
  refine v_ite (c := (1 : Int32) = 0) (by decide) (v_if_eq (tgt := 17) dJ0_isLatin1_aae02_3 (by decide) (fun h => absurd h (by decide)) (fun _ => ?_))
  refine v_aload_n dJ0_isLatin1_aae02_6 rfl rfl ?_
  refine v_strcod dJ0_isLatin1_aae02_7 kb_J0_15 hi rfl ?_
  refine v_itt (c := (0 : Int32) = 0) rfl (v_if_ne (tgt := 17) dJ0_isLatin1_aae02_10 (by decide) (fun h => absurd rfl h) (fun _ => ?_))
  refine v_iconst (v := 1) dJ0_isLatin1_aae02_13 (by decide +kernel) ?_
  refine v_goto (tgt := 18) dJ0_isLatin1_aae02_14 (by decide) ?_
  exact v_ret (ty := .boolean) dJ0_isLatin1_aae02_18 rfl rfl (by decide +kernel))
theorem str_shr : ∀ i, i < 16 → Int32.ofNat (strN.getD i 0) >>> ((0 : Int32) &&& 31) = Int32.ofNat (strN.getD i 0) := by decide +kernel
def f_J0_length_8abf5 (r : Nat) : Option Int32 := if 2000 ≤ r ∧ r < 2016 then some (Int32.ofNat (strN.getD (r - 2000) 0)) else none
theorem str_len {r : Nat} : ∀ z, f_J0_length_8abf5 r = some z → ∃ i, i < 16 ∧ r = 2000 + i := by
  intro z hz
  unfold f_J0_length_8abf5 at hz
  split at hz
  · exact ⟨r - 2000, by omega, by omega⟩
  · cases hz
theorem ct_J0_length_8abf5 {SH : SHT} (r : Nat) (s0 : St) : CT yJ0_length_8abf5 mJ0_length_8abf5 3 SH (jP s0) [.ref r] s0 (f_J0_length_8abf5 r) := by
  intro z hz
  obtain ⟨i, hi, rfl⟩ := str_len z hz
  have e : f_J0_length_8abf5 (2000 + i) = some (Int32.ofNat (strN.getD i 0) >>> ((0 : Int32) &&& 31)) := by
    unfold f_J0_length_8abf5
    rw [if_pos (by omega), str_shr i hi, show 2000 + i - 2000 = i by omega]
  rw [e] at hz
  refine CT.of (by decide +kernel) rfl (fun E => Nat.le_of_ble_eq_true rfl) (show VF mJ0_length_8abf5 3 SH (jP s0) 0 [(0, .ref (2000 + i))] [] s0 (some (Int32.ofNat (strN.getD i 0) >>> ((0 : Int32) &&& 31))) from ?_) z hz
  refine v_aload_n dJ0_length_8abf5_0 rfl rfl ?_
  refine v_strval dJ0_length_8abf5_1 kb_J0_9 hi rfl ?_
  refine v_strlen dJ0_length_8abf5_4 hi ?_
  refine v_aload_n dJ0_length_8abf5_5 rfl rfl ?_
  refine onI (runV (as := []) dJ0_length_8abf5_6 kv_J0_335 rfl rfl (Nat.le_of_ble_eq_true rfl) (Nat.le_of_ble_eq_true rfl) (recvS hi rfl rfl) (ct_J0_coder i hi s0) rfl) ?_
  refine v_ishr dJ0_length_8abf5_9 ?_
  exact v_ret (ty := .int) dJ0_length_8abf5_10 rfl rfl rfl
theorem ct_J3_checkIndex {SH : SHT} (x y : Int32) (q : Value) (hq : q = .null ∨ q = .ref 4000) (h0 : ¬ x < 0) (h1 : x < y) (s0 : St) : CT yJ3_checkIndex_8e157 mJ3_checkIndex_8e157 0 SH (jP s0) [.int x, .int y, q] s0 (some x) := by
  rcases hq with rfl | rfl
  · refine CT.of (by decide +kernel) rfl (fun E => Nat.le_of_ble_eq_true rfl) (show VF mJ3_checkIndex_8e157 0 SH (jP s0) 0 [(0, .int x), (1, .int y), (2, .null)] [] s0 (some x) from ?_)
    refine v_iload_n dJ3_checkIndex_8e157_0 rfl rfl ?_
    refine v_ite (c := x < 0) h0 (v_if_lt (tgt := 9) dJ3_checkIndex_8e157_1 (by decide) (fun h => absurd h h0) (fun _ => ?_))
    refine v_iload_n dJ3_checkIndex_8e157_4 rfl rfl ?_
    refine v_iload_n dJ3_checkIndex_8e157_5 rfl rfl ?_
    refine v_itt (c := x < y) h1 (v_icmp_lt (tgt := 16) dJ3_checkIndex_8e157_6 (by decide) (fun _ => ?_) (fun h => absurd h1 h))
    refine v_iload_n dJ3_checkIndex_8e157_16 rfl rfl ?_
    exact v_ret (ty := .int) dJ3_checkIndex_8e157_17 rfl rfl rfl
  · refine CT.of (by decide +kernel) rfl (fun E => Nat.le_of_ble_eq_true rfl) (show VF mJ3_checkIndex_8e157 0 SH (jP s0) 0 [(0, .int x), (1, .int y), (2, .ref 4000)] [] s0 (some x) from ?_)
    refine v_iload_n dJ3_checkIndex_8e157_0 rfl rfl ?_
    refine v_ite (c := x < 0) h0 (v_if_lt (tgt := 9) dJ3_checkIndex_8e157_1 (by decide) (fun h => absurd h h0) (fun _ => ?_))
    refine v_iload_n dJ3_checkIndex_8e157_4 rfl rfl ?_
    refine v_iload_n dJ3_checkIndex_8e157_5 rfl rfl ?_
    refine v_itt (c := x < y) h1 (v_icmp_lt (tgt := 16) dJ3_checkIndex_8e157_6 (by decide) (fun _ => ?_) (fun h => absurd h1 h))
    refine v_iload_n dJ3_checkIndex_8e157_16 rfl rfl ?_
    exact v_ret (ty := .int) dJ3_checkIndex_8e157_17 rfl rfl rfl
theorem ct_J0_checkIndex {SH : SHT} (x y : Int32) (h0 : ¬ x < 0) (h1 : x < y) (s0 : St) : CT yJ0_checkIndex_df160 mJ0_checkIndex_df160 1 SH (jU s0) [.int x, .int y] s0 (some ()) := CT.of (by decide +kernel) rfl (fun E => Nat.le_of_ble_eq_true rfl) (show VF mJ0_checkIndex_df160 1 SH (jU s0) 0 [(0, .int x), (1, .int y)] [] s0 (some ()) from by
  refine v_iload_n dJ0_checkIndex_df160_0 rfl rfl ?_
  refine v_iload_n dJ0_checkIndex_df160_1 rfl rfl ?_
  refine v_getq dJ0_checkIndex_df160_2 kb_J0_1053 ?_ ?_
  · refine onI (runT (as := [.int x, .int y, .null]) dJ0_checkIndex_df160_5 kt_J0_1059 rfl rfl (Nat.le_of_ble_eq_true rfl) (Nat.le_of_ble_eq_true rfl) (ct_J3_checkIndex x y _ (Or.inl rfl) h0 h1 s0) rfl) ?_
    refine v_pop dJ0_checkIndex_df160_8 rfl ?_
    exact v_vret dJ0_checkIndex_df160_9 rfl rfl
  · refine onI (runT (as := [.int x, .int y, .ref 4000]) dJ0_checkIndex_df160_5 kt_J0_1059 rfl rfl (Nat.le_of_ble_eq_true rfl) (Nat.le_of_ble_eq_true rfl) (ct_J3_checkIndex x y _ (Or.inr rfl) h0 h1 s0) rfl) ?_
    refine v_pop dJ0_checkIndex_df160_8 rfl ?_
    exact v_vret dJ0_checkIndex_df160_9 rfl rfl)
theorem str_c : ∀ i, i < 16 → ∀ j, j < strN.getD i 0 → ((((strB.getD i []).getD j 0) &&& 255).toUInt32 % 65536).toInt32 = ((strB.getD i []).getD j 0) &&& 255 ∧ narrow .char (.int (((strB.getD i []).getD j 0) &&& 255)) = .int (((strB.getD i []).getD j 0) &&& 255) := by decide +kernel
theorem str_n : ∀ i, i < 16 → strN.getD i 0 < 2 ^ 31 := by decide +kernel
theorem ct_J1_charAt {SH : SHT} (i : Nat) (hi : i < 16) (x : Int32) (hx : ib x (strN.getD i 0) = true) (s0 : St) : CT yJ1_charAt_3b067 mJ1_charAt_3b067 2 SH (jP s0) [.ref (3000 + i), .int x] s0 (some (((strB.getD i []).getD (ix x) 0) &&& 255)) := CT.of (by decide +kernel) rfl (fun E => Nat.le_of_ble_eq_true rfl) (show VF mJ1_charAt_3b067 2 SH (jP s0) 0 [(0, .ref (3000 + i)), (1, .int x)] [] s0 (some (((strB.getD i []).getD (ix x) 0) &&& 255)) from by
  obtain ⟨j, hj, ej⟩ := ib_nI hx (str_n i hi)
  have h0 : ¬ x < 0 := by rw [ej]; exact nI_pos (Nat.lt_trans hj (str_n i hi))
  have h1 : x < Int32.ofNat (strN.getD i 0) := by rw [ej]; exact nI_lt hj (str_n i hi)
  have hc := str_c i hi (ix x) (ib_lt hx)
  refine v_iload_n dJ1_charAt_3b067_0 rfl rfl ?_
  refine v_aload_n dJ1_charAt_3b067_1 rfl rfl ?_
  refine v_strlen dJ1_charAt_3b067_2 hi ?_
  refine onV (runT (as := [.int x, .int (Int32.ofNat (strN.getD i 0))]) dJ1_charAt_3b067_3 kt_J1_9 rfl rfl (Nat.le_of_ble_eq_true rfl) (Nat.le_of_ble_eq_true rfl) (ct_J0_checkIndex x _ h0 h1 s0) rfl) ?_
  refine v_aload_n dJ1_charAt_3b067_6 rfl rfl ?_
  refine v_iload_n dJ1_charAt_3b067_7 rfl rfl ?_
  refine v_strbal dJ1_charAt_3b067_8 hi hx ?_
  refine v_sipush (v := 255) dJ1_charAt_3b067_9 (by decide +kernel) ?_
  refine v_iand dJ1_charAt_3b067_12 ?_
  refine v_i2c dJ1_charAt_3b067_13 ?_
  rw [hc.1]
  exact v_ret (ty := .char) dJ1_charAt_3b067_14 rfl rfl hc.2)
def f_J0_charAt_5068e (r : Nat) (a1 : Int32) : Option Int32 := if 2000 ≤ r ∧ r < 2016 ∧ ib a1 (strN.getD (r - 2000) 0) = true then some (((strB.getD (r - 2000) []).getD (ix a1) 0) &&& 255) else none
theorem str_chr {r : Nat} {a1 : Int32} : ∀ z, f_J0_charAt_5068e r a1 = some z → ∃ i, i < 16 ∧ r = 2000 + i := by
  intro z hz
  unfold f_J0_charAt_5068e at hz
  split at hz
  · exact ⟨r - 2000, by omega, by omega⟩
  · cases hz
theorem ct_J0_charAt_5068e {SH : SHT} (r : Nat) (a1 : Int32) (s0 : St) : CT yJ0_charAt_5068e mJ0_charAt_5068e 4 SH (jP s0) [.ref r, .int a1] s0 (f_J0_charAt_5068e r a1) := by
  intro z hz
  have hz0 := hz
  unfold f_J0_charAt_5068e at hz
  split at hz
  case isFalse => cases hz
  case isTrue hh =>
    obtain ⟨g1, g2, g3⟩ := hh
    obtain ⟨i, hi, rfl⟩ := str_chr z hz0
    rw [show 2000 + i - 2000 = i by omega] at hz g3
    have hc := str_c i hi (ix a1) (ib_lt g3)
    refine CT.of (by decide +kernel) rfl (fun E => Nat.le_of_ble_eq_true rfl) (show VF mJ0_charAt_5068e 4 SH (jP s0) 0 [(0, .ref (2000 + i)), (1, .int a1)] [] s0 (some (((strB.getD i []).getD (ix a1) 0) &&& 255)) from ?_) z hz
    refine v_aload_n dJ0_charAt_5068e_0 rfl rfl ?_
    refine onI (runV (as := []) dJ0_charAt_5068e_1 kv_J0_492 rfl rfl (Nat.le_of_ble_eq_true rfl) (Nat.le_of_ble_eq_true rfl) (recvS hi rfl rfl) (ct_J0_isLatin1 i hi s0) rfl) ?_
    refine v_ite (c := (1 : Int32) = 0) (by decide) (v_if_eq (tgt := 16) dJ0_charAt_5068e_4 (by decide) (fun h => absurd h (by decide)) (fun _ => ?_))
    refine v_aload_n dJ0_charAt_5068e_7 rfl rfl ?_
    refine v_strval dJ0_charAt_5068e_8 kb_J0_9 hi rfl ?_
    refine v_iload_n dJ0_charAt_5068e_11 rfl rfl ?_
    refine onI (runT (as := [.ref (3000 + i), .int a1]) dJ0_charAt_5068e_12 kt_J0_495 rfl rfl (Nat.le_of_ble_eq_true rfl) (Nat.le_of_ble_eq_true rfl) (ct_J1_charAt i hi a1 g3 s0) rfl) ?_
    exact v_ret (ty := .char) dJ0_charAt_5068e_15 rfl rfl hc.2
