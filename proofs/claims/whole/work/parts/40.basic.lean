/-! pure rows: the functions' own words -/
theorem gd_t {α : Type} (o : Option α) : gd true o = o := rfl
theorem gd_p {α : Type} {b : Bool} {o : Option α} (h : b = true) : gd b o = o := by rw [h]; rfl
theorem cp_s {κ α : Type} (q : κ) (f : κ → Option α) : cp (some q) f = f q := rfl
theorem cb_s {κ α : Type} (q : κ) (s : St) (f : κ → St → Option α) : cb (some (q, s)) f = f q s := rfl
theorem cw_s {α : Type} (s : St) (f : St → Option α) : cw (some s) f = f s := rfl
theorem cp_ite {κ α : Type} {c : Prop} [Decidable c] (a b : Option κ) (f : κ → Option α) : cp (if c then a else b) f = if c then cp a f else cp b f := by split <;> rfl
theorem cb_ite {κ α : Type} {c : Prop} [Decidable c] (a b : Option (κ × St)) (f : κ → St → Option α) : cb (if c then a else b) f = if c then cb a f else cb b f := by split <;> rfl
theorem cw_ite {α : Type} {c : Prop} [Decidable c] (a b : Option St) (f : St → Option α) : cw (if c then a else b) f = if c then cw a f else cw b f := by split <;> rfl
theorem bn_ifcp {κ α : Type} {P : Prop} [Decidable P] (K : κ → Option α) (a : κ) (o : Option κ) : bn K (fun K => if P then K a else cp o fun x => K x) = cp (if P then some a else o) K := by unfold bn; split <;> rfl
theorem bn_if2 {κ α : Type} {P : Prop} [Decidable P] (K : κ → Option α) (a c : κ) : bn K (fun K => if P then K a else K c) = K (if P then a else c) := by unfold bn; split <;> rfl
theorem bn_e {α β : Type} (a : α) (f : α → β) : bn a f = f a := rfl
theorem ib_n {n N : Nat} (h : n < N) (hN : N ≤ 5000) : ib (nI n) N = true := by
  have h1 : n < 2 ^ 31 := by omega
  have : ¬ (nI n < 0 ∨ N ≤ (nI n).toNatClampNeg) := by
    rw [nI_clamp h1]
    intro q
    rcases q with q | q
    · exact nI_pos h1 q
    · omega
  exact decide_eq_true this
theorem gd_n {α : Type} {n N : Nat} {o : Option α} (h : n < N) (hN : N ≤ 5000) : gd (ib (nI n) N) o = o := gd_p (ib_n h hN)
theorem ix_n {n : Nat} (h : n < 2 ^ 31) : ix (nI n) = n := nI_clamp h
def bI (b : Bool) : Int32 := if b = true then 1 else 0
theorem bI_t : bI true = 1 := rfl
theorem bI_f : bI false = 0 := rfl
theorem bI_0 (b : Bool) : (bI b = 0) = (b = false) := by cases b <;> decide
theorem bI_1 (b : Bool) : (bI b = 1) = (b = true) := by cases b <;> decide
theorem bt_ne : ¬ bI true = 0 := by decide
theorem bf_eq : bI false = 0 := rfl
theorem zb_bI (b : Bool) : zb (bI b) = true := by cases b <;> decide
theorem ite_bI {c : Prop} [Decidable c] : (if c then some (1 : Int32) else some (0 : Int32)) = some (bI (decide c)) := by by_cases h : c <;> simp [h, bI]
theorem ite_bI' {c : Prop} [Decidable c] : (if c then some (0 : Int32) else some (1 : Int32)) = some (bI (!decide c)) := by by_cases h : c <;> simp [h, bI]
theorem som_ite {κ : Type} {c : Prop} [Decidable c] (a b : κ) : (if c then some a else some b) = some (if c then a else b) := by split <;> rfl
/-- a loop over a counter -/
theorem loopR {S R : Type} (L : Nat → Int32 → S → Option R) (K : S → Option R) (N : Nat) (P : Nat → S → Prop) (hx : ∀ n s, P N s → L (n + 1) (nI N) s = K s) (hs : ∀ n i s, i < N → P i s → ∃ s', L (n + 1) (nI i) s = L n (nI (i + 1)) s' ∧ P (i + 1) s') :
    ∀ (k i : Nat) (s : S) (n : Nat), i + k = N → k < n → P i s → ∃ s', L n (nI i) s = K s' ∧ P N s' := by
  intro k
  induction k with
  | zero =>
    intro i s n hi hn hP
    obtain ⟨n, rfl⟩ : ∃ j, n = j + 1 := ⟨n - 1, by omega⟩
    have : i = N := by omega
    subst this
    exact ⟨s, hx n s hP, hP⟩
  | succ k ih =>
    intro i s n hi hn hP
    obtain ⟨n, rfl⟩ : ∃ j, n = j + 1 := ⟨n - 1, by omega⟩
    obtain ⟨s', e, hP'⟩ := hs n i s (by omega) hP
    obtain ⟨s'', e2, hP2⟩ := ih (i + 1) s' n (by omega) (by omega) hP'
    exact ⟨s'', e.trans e2, hP2⟩
theorem loop0 {S R : Type} (L : Nat → Int32 → S → Option R) (K : S → Option R) (N : Nat) (hN : N < 999) (P : Nat → S → Prop) (s : S) (h0 : P 0 s) (hx : ∀ n s, P N s → L (n + 1) (nI N) s = K s) (hs : ∀ n i s, i < N → P i s → ∃ s', L (n + 1) (nI i) s = L n (nI (i + 1)) s' ∧ P (i + 1) s') :
    ∃ s', L FU (0 : Int32) s = K s' ∧ P N s' := by
  have h := loopR L K N P hx hs N 0 s FU (by omega) (by show N < 1000; omega) h0
  rwa [nI_0] at h
theorem li_0 : (0 : Int32) = nI 0 := rfl
theorem li_1 : (1 : Int32) = nI 1 := rfl
theorem li_2 : (2 : Int32) = nI 2 := rfl
theorem li_3 : (3 : Int32) = nI 3 := rfl
theorem li_4 : (4 : Int32) = nI 4 := rfl
theorem li_5 : (5 : Int32) = nI 5 := rfl
theorem li_6 : (6 : Int32) = nI 6 := rfl
theorem li_7 : (7 : Int32) = nI 7 := rfl
theorem li_8 : (8 : Int32) = nI 8 := rfl
theorem li_9 : (9 : Int32) = nI 9 := rfl
theorem li_10 : (10 : Int32) = nI 10 := rfl
theorem li_11 : (11 : Int32) = nI 11 := rfl
theorem li_12 : (12 : Int32) = nI 12 := rfl
theorem li_13 : (13 : Int32) = nI 13 := rfl
theorem li_14 : (14 : Int32) = nI 14 := rfl
theorem li_15 : (15 : Int32) = nI 15 := rfl
theorem li_16 : (16 : Int32) = nI 16 := rfl
theorem li_17 : (17 : Int32) = nI 17 := rfl
theorem li_18 : (18 : Int32) = nI 18 := rfl
theorem li_19 : (19 : Int32) = nI 19 := rfl
theorem li_20 : (20 : Int32) = nI 20 := rfl
theorem li_21 : (21 : Int32) = nI 21 := rfl
theorem li_22 : (22 : Int32) = nI 22 := rfl
theorem li_23 : (23 : Int32) = nI 23 := rfl
theorem li_24 : (24 : Int32) = nI 24 := rfl
theorem li_25 : (25 : Int32) = nI 25 := rfl
theorem li_26 : (26 : Int32) = nI 26 := rfl
theorem li_27 : (27 : Int32) = nI 27 := rfl
theorem li_28 : (28 : Int32) = nI 28 := rfl
theorem li_29 : (29 : Int32) = nI 29 := rfl
theorem li_30 : (30 : Int32) = nI 30 := rfl
theorem li_31 : (31 : Int32) = nI 31 := rfl
theorem li_32 : (32 : Int32) = nI 32 := rfl
theorem li_33 : (33 : Int32) = nI 33 := rfl
theorem li_34 : (34 : Int32) = nI 34 := rfl
theorem li_35 : (35 : Int32) = nI 35 := rfl
theorem li_36 : (36 : Int32) = nI 36 := rfl
theorem li_37 : (37 : Int32) = nI 37 := rfl
theorem li_38 : (38 : Int32) = nI 38 := rfl
theorem li_39 : (39 : Int32) = nI 39 := rfl
theorem li_40 : (40 : Int32) = nI 40 := rfl
theorem li_41 : (41 : Int32) = nI 41 := rfl
theorem li_42 : (42 : Int32) = nI 42 := rfl
theorem li_43 : (43 : Int32) = nI 43 := rfl
theorem li_44 : (44 : Int32) = nI 44 := rfl
theorem li_45 : (45 : Int32) = nI 45 := rfl
theorem li_46 : (46 : Int32) = nI 46 := rfl
theorem li_47 : (47 : Int32) = nI 47 := rfl
theorem li_48 : (48 : Int32) = nI 48 := rfl
theorem li_49 : (49 : Int32) = nI 49 := rfl
theorem li_50 : (50 : Int32) = nI 50 := rfl
theorem li_51 : (51 : Int32) = nI 51 := rfl
theorem li_52 : (52 : Int32) = nI 52 := rfl
theorem li_53 : (53 : Int32) = nI 53 := rfl
theorem li_54 : (54 : Int32) = nI 54 := rfl
theorem li_55 : (55 : Int32) = nI 55 := rfl
theorem li_56 : (56 : Int32) = nI 56 := rfl
theorem li_57 : (57 : Int32) = nI 57 := rfl
theorem li_58 : (58 : Int32) = nI 58 := rfl
theorem li_59 : (59 : Int32) = nI 59 := rfl
theorem li_60 : (60 : Int32) = nI 60 := rfl
theorem li_61 : (61 : Int32) = nI 61 := rfl
theorem li_62 : (62 : Int32) = nI 62 := rfl
theorem li_63 : (63 : Int32) = nI 63 := rfl
theorem li_64 : (64 : Int32) = nI 64 := rfl
theorem li_65 : (65 : Int32) = nI 65 := rfl
theorem li_66 : (66 : Int32) = nI 66 := rfl
theorem li_67 : (67 : Int32) = nI 67 := rfl
theorem li_68 : (68 : Int32) = nI 68 := rfl
theorem li_69 : (69 : Int32) = nI 69 := rfl
theorem li_70 : (70 : Int32) = nI 70 := rfl
theorem li_71 : (71 : Int32) = nI 71 := rfl
theorem li_72 : (72 : Int32) = nI 72 := rfl
theorem li_73 : (73 : Int32) = nI 73 := rfl
theorem li_74 : (74 : Int32) = nI 74 := rfl
theorem li_75 : (75 : Int32) = nI 75 := rfl
theorem li_76 : (76 : Int32) = nI 76 := rfl
theorem li_77 : (77 : Int32) = nI 77 := rfl
theorem li_78 : (78 : Int32) = nI 78 := rfl
theorem li_79 : (79 : Int32) = nI 79 := rfl
theorem li_80 : (80 : Int32) = nI 80 := rfl
theorem li_81 : (81 : Int32) = nI 81 := rfl
theorem li_82 : (82 : Int32) = nI 82 := rfl
theorem li_83 : (83 : Int32) = nI 83 := rfl
theorem li_84 : (84 : Int32) = nI 84 := rfl
theorem li_85 : (85 : Int32) = nI 85 := rfl
theorem li_86 : (86 : Int32) = nI 86 := rfl
theorem li_87 : (87 : Int32) = nI 87 := rfl
theorem li_88 : (88 : Int32) = nI 88 := rfl
theorem li_89 : (89 : Int32) = nI 89 := rfl
theorem li_90 : (90 : Int32) = nI 90 := rfl
theorem li_91 : (91 : Int32) = nI 91 := rfl
theorem li_92 : (92 : Int32) = nI 92 := rfl
theorem li_93 : (93 : Int32) = nI 93 := rfl
theorem li_94 : (94 : Int32) = nI 94 := rfl
theorem li_95 : (95 : Int32) = nI 95 := rfl
theorem li_96 : (96 : Int32) = nI 96 := rfl
theorem li_97 : (97 : Int32) = nI 97 := rfl
theorem li_98 : (98 : Int32) = nI 98 := rfl
theorem li_99 : (99 : Int32) = nI 99 := rfl
theorem li_100 : (100 : Int32) = nI 100 := rfl
theorem li_101 : (101 : Int32) = nI 101 := rfl
theorem li_102 : (102 : Int32) = nI 102 := rfl
theorem li_103 : (103 : Int32) = nI 103 := rfl
theorem li_104 : (104 : Int32) = nI 104 := rfl
theorem li_105 : (105 : Int32) = nI 105 := rfl
theorem li_106 : (106 : Int32) = nI 106 := rfl
theorem li_107 : (107 : Int32) = nI 107 := rfl
theorem li_108 : (108 : Int32) = nI 108 := rfl
theorem li_109 : (109 : Int32) = nI 109 := rfl
theorem li_110 : (110 : Int32) = nI 110 := rfl
theorem li_111 : (111 : Int32) = nI 111 := rfl
theorem li_112 : (112 : Int32) = nI 112 := rfl
theorem li_113 : (113 : Int32) = nI 113 := rfl
theorem li_114 : (114 : Int32) = nI 114 := rfl
theorem li_115 : (115 : Int32) = nI 115 := rfl
theorem li_116 : (116 : Int32) = nI 116 := rfl
theorem li_117 : (117 : Int32) = nI 117 := rfl
theorem li_118 : (118 : Int32) = nI 118 := rfl
theorem li_119 : (119 : Int32) = nI 119 := rfl
theorem li_120 : (120 : Int32) = nI 120 := rfl
theorem li_121 : (121 : Int32) = nI 121 := rfl
theorem li_122 : (122 : Int32) = nI 122 := rfl
theorem li_123 : (123 : Int32) = nI 123 := rfl
theorem li_124 : (124 : Int32) = nI 124 := rfl
theorem li_125 : (125 : Int32) = nI 125 := rfl
theorem li_126 : (126 : Int32) = nI 126 := rfl
theorem li_127 : (127 : Int32) = nI 127 := rfl
theorem li_128 : (128 : Int32) = nI 128 := rfl
theorem li_129 : (129 : Int32) = nI 129 := rfl
theorem li_130 : (130 : Int32) = nI 130 := rfl
theorem li_131 : (131 : Int32) = nI 131 := rfl
theorem li_132 : (132 : Int32) = nI 132 := rfl
theorem li_133 : (133 : Int32) = nI 133 := rfl
theorem li_134 : (134 : Int32) = nI 134 := rfl
theorem li_135 : (135 : Int32) = nI 135 := rfl
theorem li_136 : (136 : Int32) = nI 136 := rfl
theorem li_137 : (137 : Int32) = nI 137 := rfl
theorem li_138 : (138 : Int32) = nI 138 := rfl
theorem li_139 : (139 : Int32) = nI 139 := rfl
theorem li_145 : (145 : Int32) = nI 145 := rfl
theorem li_150 : (150 : Int32) = nI 150 := rfl
theorem li_199 : (199 : Int32) = nI 199 := rfl
theorem li_200 : (200 : Int32) = nI 200 := rfl
theorem li_255 : (255 : Int32) = nI 255 := rfl
theorem li_1000 : (1000 : Int32) = nI 1000 := rfl
