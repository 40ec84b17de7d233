/-! String's own methods over the constants -/
theorem ib_nI {x : Int32} {n : Nat} (h : ib x n = true) (hn : n < 2 ^ 31) : ∃ j : Nat, j < n ∧ x = nI j := vp_in_of (ib_in h) hn
theorem ct_J0_coder {SH : SHT} (i : Nat) (hi : i < 16) (s0 : St) : CT yJ0_coder_7d493 mJ0_coder_7d493 0 SH (jP s0) [.ref (2000 + i)] s0 (some 0) := CT.of (by decide +kernel) rfl (fun E => Nat.le_of_ble_eq_true rfl) (show VF mJ0_coder_7d493 0 SH (jP s0) 0 [(0, .ref (2000 + i))] [] s0 (some 0) from by
  refine v_compact dJ0_coder_7d493_0 kb_J0_38 ?_
  refine v_ite (c := (1 : Int32) = 0) (by decide) (v_if_eq (tgt := 13) dJ0_coder_7d493_3 (by decide) (fun h => absurd h (by decide)) (fun _ => ?_))
  refine v_aload_n dJ0_coder_7d493_6 rfl rfl ?_
  refine v_strcod dJ0_coder_7d493_7 kb_J0_15 hi rfl ?_
  refine v_goto (tgt := 14) dJ0_coder_7d493_10 (by decide) ?_
  exact v_ret (ty := .byte) dJ0_coder_7d493_14 rfl rfl (by decide +kernel))
theorem ct_J0_isLatin1 {SH : SHT} (i : Nat) (hi : i < 16) (s0 : St) : CT yJ0_isLatin1_aae02 mJ0_isLatin1_aae02 0 SH (jP s0) [.ref (2000 + i)] s0 (some 1) := CT.of (by decide +kernel) rfl (fun E => Nat.le_of_ble_eq_true rfl) (show VF mJ0_isLatin1_aae02 0 SH (jP s0) 0 [(0, .ref (2000 + i))] [] s0 (some 1) from by
  refine v_compact dJ0_isLatin1_aae02_0 kb_J0_38 ?_
  refine v_ite (c := (1 : Int32) = 0) (by decide) (v_if_eq (tgt := 17) dJ0_isLatin1_aae02_3 (by decide) (fun h => absurd h (by decide)) (fun _ => ?_))
  refine v_aload_n dJ0_isLatin1_aae02_6 rfl rfl ?_
  refine v_strcod dJ0_isLatin1_aae02_7 kb_J0_15 hi rfl ?_
  refine v_itt (c := (0 : Int32) = 0) rfl (v_if_ne (tgt := 17) dJ0_isLatin1_aae02_10 (by decide) (fun h => absurd rfl h) (fun _ => ?_))
  refine v_iconst (v := 1) dJ0_isLatin1_aae02_13 (by decide +kernel) ?_
  refine v_goto (tgt := 18) dJ0_isLatin1_aae02_14 (by decide) ?_
  exact v_ret (ty := .boolean) dJ0_isLatin1_aae02_18 rfl rfl (by decide +kernel))
theorem str_shr : ∀ i, i < 16 → Int32.ofNat (strN.getD i 0) >>> ((0 : Int32) &&& 31) = Int32.ofNat (strN.getD i 0) := by decide +kernel
theorem str_len {r : Nat} : ∀ z, f_J0_length_8abf5 r = some z → ∃ i, i < 16 ∧ r = 2000 + i := by
  intro z hz
  unfold f_J0_length_8abf5 at hz
  split at hz
  · exact ⟨r - 2000, by omega, by omega⟩
  · cases hz
theorem ct_J0_length_8abf5 {SH : SHT} (r : Nat) (s0 : St) : CT yJ0_length_8abf5 mJ0_length_8abf5 3 SH (jP s0) [.ref r] s0 (f_J0_length_8abf5 r) := by
  intro z hz
  obtain ⟨i, hi, rfl⟩ := str_len z hz
  have e : f_J0_length_8abf5 (2000 + i) = some (Int32.ofNat (strN.getD i 0) >>> ((0 : Int32) &&& 31)) := by
    unfold f_J0_length_8abf5
    rw [if_pos (by omega), str_shr i hi, show 2000 + i - 2000 = i by omega]
  rw [e] at hz
  refine CT.of (by decide +kernel) rfl (fun E => Nat.le_of_ble_eq_true rfl) (show VF mJ0_length_8abf5 3 SH (jP s0) 0 [(0, .ref (2000 + i))] [] s0 (some (Int32.ofNat (strN.getD i 0) >>> ((0 : Int32) &&& 31))) from ?_) z hz
  refine v_aload_n dJ0_length_8abf5_0 rfl rfl ?_
  refine v_strval dJ0_length_8abf5_1 kb_J0_9 hi rfl ?_
  refine v_strlen dJ0_length_8abf5_4 hi ?_
  refine v_aload_n dJ0_length_8abf5_5 rfl rfl ?_
  refine onI (runV (as := []) dJ0_length_8abf5_6 kv_J0_335 rfl rfl (Nat.le_of_ble_eq_true rfl) (Nat.le_of_ble_eq_true rfl) (recvS hi rfl rfl) (ct_J0_coder i hi s0) rfl) ?_
  refine v_ishr dJ0_length_8abf5_9 ?_
  exact v_ret (ty := .int) dJ0_length_8abf5_10 rfl rfl rfl
theorem ct_J3_checkIndex {SH : SHT} (x y : Int32) (q : Value) (hq : q = .null ∨ q = .ref 4000) (h0 : ¬ x < 0) (h1 : x < y) (s0 : St) : CT yJ3_checkIndex_8e157 mJ3_checkIndex_8e157 0 SH (jP s0) [.int x, .int y, q] s0 (some x) := by
  rcases hq with rfl | rfl
  · refine CT.of (by decide +kernel) rfl (fun E => Nat.le_of_ble_eq_true rfl) (show VF mJ3_checkIndex_8e157 0 SH (jP s0) 0 [(0, .int x), (1, .int y), (2, .null)] [] s0 (some x) from ?_)
    refine v_iload_n dJ3_checkIndex_8e157_0 rfl rfl ?_
    refine v_ite (c := x < 0) h0 (v_if_lt (tgt := 9) dJ3_checkIndex_8e157_1 (by decide) (fun h => absurd h h0) (fun _ => ?_))
    refine v_iload_n dJ3_checkIndex_8e157_4 rfl rfl ?_
    refine v_iload_n dJ3_checkIndex_8e157_5 rfl rfl ?_
    refine v_itt (c := x < y) h1 (v_icmp_lt (tgt := 16) dJ3_checkIndex_8e157_6 (by decide) (fun _ => ?_) (fun h => absurd h1 h))
    refine v_iload_n dJ3_checkIndex_8e157_16 rfl rfl ?_
    exact v_ret (ty := .int) dJ3_checkIndex_8e157_17 rfl rfl rfl
  · refine CT.of (by decide +kernel) rfl (fun E => Nat.le_of_ble_eq_true rfl) (show VF mJ3_checkIndex_8e157 0 SH (jP s0) 0 [(0, .int x), (1, .int y), (2, .ref 4000)] [] s0 (some x) from ?_)
    refine v_iload_n dJ3_checkIndex_8e157_0 rfl rfl ?_
    refine v_ite (c := x < 0) h0 (v_if_lt (tgt := 9) dJ3_checkIndex_8e157_1 (by decide) (fun h => absurd h h0) (fun _ => ?_))
    refine v_iload_n dJ3_checkIndex_8e157_4 rfl rfl ?_
    refine v_iload_n dJ3_checkIndex_8e157_5 rfl rfl ?_
    refine v_itt (c := x < y) h1 (v_icmp_lt (tgt := 16) dJ3_checkIndex_8e157_6 (by decide) (fun _ => ?_) (fun h => absurd h1 h))
    refine v_iload_n dJ3_checkIndex_8e157_16 rfl rfl ?_
    exact v_ret (ty := .int) dJ3_checkIndex_8e157_17 rfl rfl rfl
theorem ct_J0_checkIndex {SH : SHT} (x y : Int32) (h0 : ¬ x < 0) (h1 : x < y) (s0 : St) : CT yJ0_checkIndex_df160 mJ0_checkIndex_df160 1 SH (jU s0) [.int x, .int y] s0 (some ()) := CT.of (by decide +kernel) rfl (fun E => Nat.le_of_ble_eq_true rfl) (show VF mJ0_checkIndex_df160 1 SH (jU s0) 0 [(0, .int x), (1, .int y)] [] s0 (some ()) from by
  refine v_iload_n dJ0_checkIndex_df160_0 rfl rfl ?_
  refine v_iload_n dJ0_checkIndex_df160_1 rfl rfl ?_
  refine v_getq dJ0_checkIndex_df160_2 kb_J0_1053 ?_ ?_
  · refine onI (runT (as := [.int x, .int y, .null]) dJ0_checkIndex_df160_5 kt_J0_1059 rfl rfl (Nat.le_of_ble_eq_true rfl) (Nat.le_of_ble_eq_true rfl) (ct_J3_checkIndex x y _ (Or.inl rfl) h0 h1 s0) rfl) ?_
    refine v_pop dJ0_checkIndex_df160_8 rfl ?_
    exact v_vret dJ0_checkIndex_df160_9 rfl rfl
  · refine onI (runT (as := [.int x, .int y, .ref 4000]) dJ0_checkIndex_df160_5 kt_J0_1059 rfl rfl (Nat.le_of_ble_eq_true rfl) (Nat.le_of_ble_eq_true rfl) (ct_J3_checkIndex x y _ (Or.inr rfl) h0 h1 s0) rfl) ?_
    refine v_pop dJ0_checkIndex_df160_8 rfl ?_
    exact v_vret dJ0_checkIndex_df160_9 rfl rfl)
theorem str_c : ∀ i, i < 16 → ∀ j, j < strN.getD i 0 → ((((strB.getD i []).getD j 0) &&& 255).toUInt32 % 65536).toInt32 = ((strB.getD i []).getD j 0) &&& 255 ∧ narrow .char (.int (((strB.getD i []).getD j 0) &&& 255)) = .int (((strB.getD i []).getD j 0) &&& 255) := by decide +kernel
theorem str_n : ∀ i, i < 16 → strN.getD i 0 < 2 ^ 31 := by decide +kernel
theorem ct_J1_charAt {SH : SHT} (i : Nat) (hi : i < 16) (x : Int32) (hx : ib x (strN.getD i 0) = true) (s0 : St) : CT yJ1_charAt_3b067 mJ1_charAt_3b067 2 SH (jP s0) [.ref (3000 + i), .int x] s0 (some (((strB.getD i []).getD (ix x) 0) &&& 255)) := CT.of (by decide +kernel) rfl (fun E => Nat.le_of_ble_eq_true rfl) (show VF mJ1_charAt_3b067 2 SH (jP s0) 0 [(0, .ref (3000 + i)), (1, .int x)] [] s0 (some (((strB.getD i []).getD (ix x) 0) &&& 255)) from by
  obtain ⟨j, hj, ej⟩ := ib_nI hx (str_n i hi)
  have h0 : ¬ x < 0 := by rw [ej]; exact nI_pos (Nat.lt_trans hj (str_n i hi))
  have h1 : x < Int32.ofNat (strN.getD i 0) := by rw [ej]; exact nI_lt hj (str_n i hi)
  have hc := str_c i hi (ix x) (ib_lt hx)
  refine v_iload_n dJ1_charAt_3b067_0 rfl rfl ?_
  refine v_aload_n dJ1_charAt_3b067_1 rfl rfl ?_
  refine v_strlen dJ1_charAt_3b067_2 hi ?_
  refine onV (runT (as := [.int x, .int (Int32.ofNat (strN.getD i 0))]) dJ1_charAt_3b067_3 kt_J1_9 rfl rfl (Nat.le_of_ble_eq_true rfl) (Nat.le_of_ble_eq_true rfl) (ct_J0_checkIndex x _ h0 h1 s0) rfl) ?_
  refine v_aload_n dJ1_charAt_3b067_6 rfl rfl ?_
  refine v_iload_n dJ1_charAt_3b067_7 rfl rfl ?_
  refine v_strbal dJ1_charAt_3b067_8 hi hx ?_
  refine v_sipush (v := 255) dJ1_charAt_3b067_9 (by decide +kernel) ?_
  refine v_iand dJ1_charAt_3b067_12 ?_
  refine v_i2c dJ1_charAt_3b067_13 ?_
  rw [hc.1]
  exact v_ret (ty := .char) dJ1_charAt_3b067_14 rfl rfl hc.2)
theorem str_chr {r : Nat} {a1 : Int32} : ∀ z, f_J0_charAt_5068e r a1 = some z → ∃ i, i < 16 ∧ r = 2000 + i := by
  intro z hz
  unfold f_J0_charAt_5068e at hz
  split at hz
  · exact ⟨r - 2000, by omega, by omega⟩
  · cases hz
theorem ct_J0_charAt_5068e {SH : SHT} (r : Nat) (a1 : Int32) (s0 : St) : CT yJ0_charAt_5068e mJ0_charAt_5068e 4 SH (jP s0) [.ref r, .int a1] s0 (f_J0_charAt_5068e r a1) := by
  intro z hz
  have hz0 := hz
  unfold f_J0_charAt_5068e at hz
  split at hz
  case isFalse => cases hz
  case isTrue hh =>
    obtain ⟨g1, g2, g3⟩ := hh
    obtain ⟨i, hi, rfl⟩ := str_chr z hz0
    rw [show 2000 + i - 2000 = i by omega] at hz g3
    have hc := str_c i hi (ix a1) (ib_lt g3)
    refine CT.of (by decide +kernel) rfl (fun E => Nat.le_of_ble_eq_true rfl) (show VF mJ0_charAt_5068e 4 SH (jP s0) 0 [(0, .ref (2000 + i)), (1, .int a1)] [] s0 (some (((strB.getD i []).getD (ix a1) 0) &&& 255)) from ?_) z hz
    refine v_aload_n dJ0_charAt_5068e_0 rfl rfl ?_
    refine onI (runV (as := []) dJ0_charAt_5068e_1 kv_J0_492 rfl rfl (Nat.le_of_ble_eq_true rfl) (Nat.le_of_ble_eq_true rfl) (recvS hi rfl rfl) (ct_J0_isLatin1 i hi s0) rfl) ?_
    refine v_ite (c := (1 : Int32) = 0) (by decide) (v_if_eq (tgt := 16) dJ0_charAt_5068e_4 (by decide) (fun h => absurd h (by decide)) (fun _ => ?_))
    refine v_aload_n dJ0_charAt_5068e_7 rfl rfl ?_
    refine v_strval dJ0_charAt_5068e_8 kb_J0_9 hi rfl ?_
    refine v_iload_n dJ0_charAt_5068e_11 rfl rfl ?_
    refine onI (runT (as := [.ref (3000 + i), .int a1]) dJ0_charAt_5068e_12 kt_J0_495 rfl rfl (Nat.le_of_ble_eq_true rfl) (Nat.le_of_ble_eq_true rfl) (ct_J1_charAt i hi a1 g3 s0) rfl) ?_
    exact v_ret (ty := .char) dJ0_charAt_5068e_15 rfl rfl hc.2
/-! Math.min, max, abs -/
theorem k9_ini : Cond.initialized "java/lang/Math" ∈ TB := TB_t 10 (by decide +kernel) (by decide +kernel)
theorem k9_minS : Cond.static Lib.Math.min.name ∈ TB := TB_t 310 (by decide +kernel) (by decide +kernel)
theorem k9_maxS : Cond.static Lib.Math.max.name ∈ TB := TB_t 526 (by decide +kernel) (by decide +kernel)
theorem k9_absS : Cond.static Lib.Math.abs.name ∈ TB := TB_t 410 (by decide +kernel) (by decide +kernel)
theorem k9_minC : Cond.code Lib.Math.min.name Lib.Math.min.code 2 (some .int) ∈ TB := TB_t 311 (by decide +kernel) (by decide +kernel)
theorem k9_maxC : Cond.code Lib.Math.max.name Lib.Math.max.code 2 (some .int) ∈ TB := TB_t 527 (by decide +kernel) (by decide +kernel)
theorem k9_absC : Cond.code Lib.Math.abs.name Lib.Math.abs.code 1 (some .int) ∈ TB := TB_t 411 (by decide +kernel) (by decide +kernel)
section VMA
variable {α : Type} {M : MC} {d : Nat} {SH : SHT} {ι : α → Option Value × St} {pc : Nat} {L : List (Nat × Value)} {st : List Value} {σ : St} {o : Option α}
theorem cvs_cat (E : En) (st : List Value) : ((cvs E st).map fun v => v.category) = st.map fun v => v.category := by
  unfold cvs
  rw [List.map_map]
  exact List.map_congr_left (fun v _ => cv_cat E v)
theorem v_mmin {idx : Nat} {x y : Int32} (hd : decode M.2.1 pc = .ok (.invokestatic idx, 3)) (h1 : Cond.methodLink M.1 idx Lib.Math.min.name ∈ TB) (hst : (st.map fun v => v.category).sum ≤ 8) (hdd : 1 ≤ d) (k : VF M d SH ι (pc + 3) L (.int (mmin x y) :: st) σ o) : VF M d SH ι pc L (.int y :: .int x :: st) σ o := by
  intro z hz p l e R s m args below meth c E Q cells slots C hc hs F H locs ls hP hS hL
  have hts := C.2.2.2.2.1
  have h9 := C.2.2.2.2.2.2.2.2
  exact va_mmin C.1 C.2.1 (by rw [C.2.2.1]; exact hL.1.symm) C.2.2.2.1 (hts _ h1) (hts _ k9_minS) (hts _ k9_ini) (hts _ k9_minC) (Nat.le_trans hdd C.2.2.2.2.2.2.2.1) (by have h8 := cvs_cat E st; unfold cvs at h8; rw [h8]; omega) hc hs hd (k z hz p l e R s m args below meth c E Q cells slots C hc hs F H locs ls hP hS hL)
theorem v_mmax {idx : Nat} {x y : Int32} (hd : decode M.2.1 pc = .ok (.invokestatic idx, 3)) (h1 : Cond.methodLink M.1 idx Lib.Math.max.name ∈ TB) (hst : (st.map fun v => v.category).sum ≤ 8) (hdd : 1 ≤ d) (k : VF M d SH ι (pc + 3) L (.int (mmax x y) :: st) σ o) : VF M d SH ι pc L (.int y :: .int x :: st) σ o := by
  intro z hz p l e R s m args below meth c E Q cells slots C hc hs F H locs ls hP hS hL
  have hts := C.2.2.2.2.1
  have h9 := C.2.2.2.2.2.2.2.2
  exact va_mmax C.1 C.2.1 (by rw [C.2.2.1]; exact hL.1.symm) C.2.2.2.1 (hts _ h1) (hts _ k9_maxS) (hts _ k9_ini) (hts _ k9_maxC) (Nat.le_trans hdd C.2.2.2.2.2.2.2.1) (by have h8 := cvs_cat E st; unfold cvs at h8; rw [h8]; omega) hc hs hd (k z hz p l e R s m args below meth c E Q cells slots C hc hs F H locs ls hP hS hL)
theorem v_mabs {idx : Nat} {x : Int32} (hd : decode M.2.1 pc = .ok (.invokestatic idx, 3)) (h1 : Cond.methodLink M.1 idx Lib.Math.abs.name ∈ TB) (hst : (st.map fun v => v.category).sum ≤ 8) (hdd : 1 ≤ d) (k : VF M d SH ι (pc + 3) L (.int (mabs x) :: st) σ o) : VF M d SH ι pc L (.int x :: st) σ o := by
  intro z hz p l e R s m args below meth c E Q cells slots C hc hs F H locs ls hP hS hL
  have hts := C.2.2.2.2.1
  have h9 := C.2.2.2.2.2.2.2.2
  exact va_mabs C.1 C.2.1 (by rw [C.2.2.1]; exact hL.1.symm) C.2.2.2.1 (hts _ h1) (hts _ k9_absS) (hts _ k9_ini) (hts _ k9_absC) (Nat.le_trans hdd C.2.2.2.2.2.2.2.1) (by have h8 := cvs_cat E st; unfold cvs at h8; rw [h8]; omega) hc hs hd (k z hz p l e R s m args below meth c E Q cells slots C hc hs F H locs ls hP hS hL)
end VMA
