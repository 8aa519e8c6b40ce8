def q_TL : List (Option QS) := [some (.inl (10, [.inr 1, .inr 2, .inr 13, .inr 15, .inr 20, .inl 3, .inl 3, .inl 0, .inl 0])),
  some (.inl (0, [.inl 0, .inl 0, .inl 0])),
  some (.inl (5, [.inr 3, .inr 8, .inr 12])),
  some (.inr (.inr (5, 4), 4)),
  some (.inr (.inl 0, 196)),
  some (.inr (.inl 0, 196)),
  some (.inr (.inl 0, 196)),
  some (.inr (.inl 0, 196)),
  some (.inr (.inr (5, 9), 3)),
  some (.inr (.inl 0, 784)),
  some (.inr (.inl 0, 784)),
  some (.inr (.inl 0, 784)),
  some (.inr (.inl 2, 3)),
  some (.inl (7, [.inr 14, .inl 0])),
  some (.inr (.inl 3, 300)),
  some (.inl (3, [.inr 16, .inl 3])),
  some (.inl (8, [.inr 13, .inr 17, .inr 18, .inr 19, .inl 0, .inl 0])),
  some (.inr (.inl 0, 301)),
  some (.inr (.inl 0, 301)),
  some (.inr (.inl 0, 301)),
  some (.inl (9, [.inr 1, .inr 34, .inr 21, .inr 22, .inr 23, .inl 3, .inl 0])),
  some (.inr (.inl 0, 10)),
  some (.inr (.inl 0, 10)),
  some (.inr (.inr (5, 24), 10)),
  some (.inr (.inl 0, 196)),
  some (.inr (.inl 0, 196)),
  some (.inr (.inl 0, 196)),
  some (.inr (.inl 0, 196)),
  some (.inr (.inl 0, 196)),
  some (.inr (.inl 0, 196)),
  some (.inr (.inl 0, 196)),
  some (.inr (.inl 0, 196)),
  some (.inr (.inl 0, 196)),
  some (.inr (.inl 0, 196)),
  some (.inl (1, [.inr 1, .inr 2, .inr 23, .inr 35, .inr 36, .inr 37, .inr 38])),
  some (.inl (6, [.inl 1, .inl 0, .inl 0, .inl 0])),
  some (.inr (.inl 0, 4)),
  some (.inr (.inl 0, 196)),
  some (.inr (.inl 2, 196)),
  some (.inl (2, [.inr 40, .inr 41, .inl 0])),
  some (.inr (.inr (4, 42), 10)),
  some (.inr (.inl 0, 26)),
  some (.inl (4, [.inr 52, .inl 0, .inl 0, .inl 0, .inl 0])),
  some (.inl (4, [.inr 53, .inl 0, .inl 0, .inl 0, .inl 0])),
  some (.inl (4, [.inr 54, .inl 0, .inl 0, .inl 0, .inl 0])),
  some (.inl (4, [.inr 55, .inl 0, .inl 0, .inl 0, .inl 0])),
  some (.inl (4, [.inr 56, .inl 0, .inl 0, .inl 0, .inl 0])),
  some (.inl (4, [.inr 57, .inl 0, .inl 0, .inl 0, .inl 0])),
  some (.inl (4, [.inr 58, .inl 0, .inl 0, .inl 0, .inl 0])),
  some (.inl (4, [.inr 59, .inl 0, .inl 0, .inl 0, .inl 0])),
  some (.inl (4, [.inr 60, .inl 0, .inl 0, .inl 0, .inl 0])),
  some (.inl (4, [.inr 61, .inl 0, .inl 0, .inl 0, .inl 0])),
  some (.inr (.inl 0, 3)),
  some (.inr (.inl 0, 3)),
  some (.inr (.inl 0, 3)),
  some (.inr (.inl 0, 3)),
  some (.inr (.inl 0, 3)),
  some (.inr (.inl 0, 3)),
  some (.inr (.inl 0, 3)),
  some (.inr (.inl 0, 3)),
  some (.inr (.inl 0, 3)),
  some (.inr (.inl 0, 3)),
  some (.inl (2, [.inr 63, .inr 64, .inl 0])),
  some (.inr (.inr (4, 65), 10)),
  some (.inr (.inl 0, 26)),
  some (.inl (4, [.inr 75, .inl 0, .inl 0, .inl 0, .inl 0])),
  some (.inl (4, [.inr 76, .inl 0, .inl 0, .inl 0, .inl 0])),
  some (.inl (4, [.inr 77, .inl 0, .inl 0, .inl 0, .inl 0])),
  some (.inl (4, [.inr 78, .inl 0, .inl 0, .inl 0, .inl 0])),
  some (.inl (4, [.inr 79, .inl 0, .inl 0, .inl 0, .inl 0])),
  some (.inl (4, [.inr 80, .inl 0, .inl 0, .inl 0, .inl 0])),
  some (.inl (4, [.inr 81, .inl 0, .inl 0, .inl 0, .inl 0])),
  some (.inl (4, [.inr 82, .inl 0, .inl 0, .inl 0, .inl 0])),
  some (.inl (4, [.inr 83, .inl 0, .inl 0, .inl 0, .inl 0])),
  some (.inl (4, [.inr 84, .inl 0, .inl 0, .inl 0, .inl 0])),
  some (.inr (.inl 0, 3)),
  some (.inr (.inl 0, 3)),
  some (.inr (.inl 0, 3)),
  some (.inr (.inl 0, 3)),
  some (.inr (.inl 0, 3)),
  some (.inr (.inl 0, 3)),
  some (.inr (.inl 0, 3)),
  some (.inr (.inl 0, 3)),
  some (.inr (.inl 0, 3)),
  some (.inr (.inl 0, 3)),
  some (.inl (11, [.inl 0, .inl 0, .inl 0, .inl 0, .inr 86, .inr 87, .inr 88, .inl 0, .inr 89, .inr 90, .inr 91, .inr 92, .inr 93, .inr 94, .inl 0, .inr 95, .inr 96, .inl 0, .inl 1, .inl 1, .inl 1, .inr 97, .inr 98, .inl 0, .inr 99, .inr 100, .inr 101, .inr 102, .inr 103, .inr 104, .inr 105, .inl 0, .inl 0, .inl 0, .inl 0, .inl 1, .inl 0, .inl 2])),
  some (.inr (.inl 0, 576)),
  some (.inr (.inl 0, 1728)),
  some (.inr (.inl 2, 3)),
  some (.inr (.inl 0, 10)),
  some (.inr (.inl 0, 10)),
  some (.inr (.inl 0, 10)),
  some (.inr (.inl 0, 30)),
  some (.inr (.inl 0, 10)),
  some (.inr (.inl 2, 90)),
  some (.inr (.inl 0, 100)),
  some (.inr (.inl 0, 1440)),
  some (.inr (.inl 1, 144)),
  some (.inr (.inl 0, 144)),
  some (.inr (.inl 0, 10)),
  some (.inr (.inl 0, 10)),
  some (.inr (.inl 0, 10)),
  some (.inr (.inl 0, 30)),
  some (.inr (.inl 0, 10)),
  some (.inr (.inl 0, 26)),
  some (.inr (.inl 0, 300))]
/-- what each name is -/
def q_T : Int → Option QS
  | .ofNat n => (q_TL[n]?).getD none
  | .negSucc _ => none
def q_N : List Int := (List.range 106).map Int.ofNat
theorem T_0 : q_T 0 = some (.inl (10, [.inr 1, .inr 2, .inr 13, .inr 15, .inr 20, .inl 3, .inl 3, .inl 0, .inl 0])) := id rfl
theorem T_1 : q_T 1 = some (.inl (0, [.inl 0, .inl 0, .inl 0])) := id rfl
theorem T_2 : q_T 2 = some (.inl (5, [.inr 3, .inr 8, .inr 12])) := id rfl
theorem T_3 : q_T 3 = some (.inr (.inr (5, 4), 4)) := id rfl
theorem T_4 : q_T 4 = some (.inr (.inl 0, 196)) := id rfl
theorem T_5 : q_T 5 = some (.inr (.inl 0, 196)) := id rfl
theorem T_6 : q_T 6 = some (.inr (.inl 0, 196)) := id rfl
theorem T_7 : q_T 7 = some (.inr (.inl 0, 196)) := id rfl
theorem T_8 : q_T 8 = some (.inr (.inr (5, 9), 3)) := id rfl
theorem T_9 : q_T 9 = some (.inr (.inl 0, 784)) := id rfl
theorem T_10 : q_T 10 = some (.inr (.inl 0, 784)) := id rfl
theorem T_11 : q_T 11 = some (.inr (.inl 0, 784)) := id rfl
theorem T_12 : q_T 12 = some (.inr (.inl 2, 3)) := id rfl
theorem T_13 : q_T 13 = some (.inl (7, [.inr 14, .inl 0])) := id rfl
theorem T_14 : q_T 14 = some (.inr (.inl 3, 300)) := id rfl
theorem T_15 : q_T 15 = some (.inl (3, [.inr 16, .inl 3])) := id rfl
theorem T_16 : q_T 16 = some (.inl (8, [.inr 13, .inr 17, .inr 18, .inr 19, .inl 0, .inl 0])) := id rfl
theorem T_17 : q_T 17 = some (.inr (.inl 0, 301)) := id rfl
theorem T_18 : q_T 18 = some (.inr (.inl 0, 301)) := id rfl
theorem T_19 : q_T 19 = some (.inr (.inl 0, 301)) := id rfl
theorem T_20 : q_T 20 = some (.inl (9, [.inr 1, .inr 34, .inr 21, .inr 22, .inr 23, .inl 3, .inl 0])) := id rfl
theorem T_21 : q_T 21 = some (.inr (.inl 0, 10)) := id rfl
theorem T_22 : q_T 22 = some (.inr (.inl 0, 10)) := id rfl
theorem T_23 : q_T 23 = some (.inr (.inr (5, 24), 10)) := id rfl
theorem T_24 : q_T 24 = some (.inr (.inl 0, 196)) := id rfl
theorem T_25 : q_T 25 = some (.inr (.inl 0, 196)) := id rfl
theorem T_26 : q_T 26 = some (.inr (.inl 0, 196)) := id rfl
theorem T_27 : q_T 27 = some (.inr (.inl 0, 196)) := id rfl
theorem T_28 : q_T 28 = some (.inr (.inl 0, 196)) := id rfl
theorem T_29 : q_T 29 = some (.inr (.inl 0, 196)) := id rfl
theorem T_30 : q_T 30 = some (.inr (.inl 0, 196)) := id rfl
theorem T_31 : q_T 31 = some (.inr (.inl 0, 196)) := id rfl
theorem T_32 : q_T 32 = some (.inr (.inl 0, 196)) := id rfl
theorem T_33 : q_T 33 = some (.inr (.inl 0, 196)) := id rfl
theorem T_34 : q_T 34 = some (.inl (1, [.inr 1, .inr 2, .inr 23, .inr 35, .inr 36, .inr 37, .inr 38])) := id rfl
theorem T_35 : q_T 35 = some (.inl (6, [.inl 1, .inl 0, .inl 0, .inl 0])) := id rfl
theorem T_36 : q_T 36 = some (.inr (.inl 0, 4)) := id rfl
theorem T_37 : q_T 37 = some (.inr (.inl 0, 196)) := id rfl
theorem T_38 : q_T 38 = some (.inr (.inl 2, 196)) := id rfl
theorem T_39 : q_T 39 = some (.inl (2, [.inr 40, .inr 41, .inl 0])) := id rfl
theorem T_40 : q_T 40 = some (.inr (.inr (4, 42), 10)) := id rfl
theorem T_41 : q_T 41 = some (.inr (.inl 0, 26)) := id rfl
theorem T_42 : q_T 42 = some (.inl (4, [.inr 52, .inl 0, .inl 0, .inl 0, .inl 0])) := id rfl
theorem T_43 : q_T 43 = some (.inl (4, [.inr 53, .inl 0, .inl 0, .inl 0, .inl 0])) := id rfl
theorem T_44 : q_T 44 = some (.inl (4, [.inr 54, .inl 0, .inl 0, .inl 0, .inl 0])) := id rfl
theorem T_45 : q_T 45 = some (.inl (4, [.inr 55, .inl 0, .inl 0, .inl 0, .inl 0])) := id rfl
theorem T_46 : q_T 46 = some (.inl (4, [.inr 56, .inl 0, .inl 0, .inl 0, .inl 0])) := id rfl
theorem T_47 : q_T 47 = some (.inl (4, [.inr 57, .inl 0, .inl 0, .inl 0, .inl 0])) := id rfl
theorem T_48 : q_T 48 = some (.inl (4, [.inr 58, .inl 0, .inl 0, .inl 0, .inl 0])) := id rfl
theorem T_49 : q_T 49 = some (.inl (4, [.inr 59, .inl 0, .inl 0, .inl 0, .inl 0])) := id rfl
theorem T_50 : q_T 50 = some (.inl (4, [.inr 60, .inl 0, .inl 0, .inl 0, .inl 0])) := id rfl
theorem T_51 : q_T 51 = some (.inl (4, [.inr 61, .inl 0, .inl 0, .inl 0, .inl 0])) := id rfl
theorem T_52 : q_T 52 = some (.inr (.inl 0, 3)) := id rfl
theorem T_53 : q_T 53 = some (.inr (.inl 0, 3)) := id rfl
theorem T_54 : q_T 54 = some (.inr (.inl 0, 3)) := id rfl
theorem T_55 : q_T 55 = some (.inr (.inl 0, 3)) := id rfl
theorem T_56 : q_T 56 = some (.inr (.inl 0, 3)) := id rfl
theorem T_57 : q_T 57 = some (.inr (.inl 0, 3)) := id rfl
theorem T_58 : q_T 58 = some (.inr (.inl 0, 3)) := id rfl
theorem T_59 : q_T 59 = some (.inr (.inl 0, 3)) := id rfl
theorem T_60 : q_T 60 = some (.inr (.inl 0, 3)) := id rfl
theorem T_61 : q_T 61 = some (.inr (.inl 0, 3)) := id rfl
theorem T_62 : q_T 62 = some (.inl (2, [.inr 63, .inr 64, .inl 0])) := id rfl
theorem T_63 : q_T 63 = some (.inr (.inr (4, 65), 10)) := id rfl
theorem T_64 : q_T 64 = some (.inr (.inl 0, 26)) := id rfl
theorem T_65 : q_T 65 = some (.inl (4, [.inr 75, .inl 0, .inl 0, .inl 0, .inl 0])) := id rfl
theorem T_66 : q_T 66 = some (.inl (4, [.inr 76, .inl 0, .inl 0, .inl 0, .inl 0])) := id rfl
theorem T_67 : q_T 67 = some (.inl (4, [.inr 77, .inl 0, .inl 0, .inl 0, .inl 0])) := id rfl
theorem T_68 : q_T 68 = some (.inl (4, [.inr 78, .inl 0, .inl 0, .inl 0, .inl 0])) := id rfl
theorem T_69 : q_T 69 = some (.inl (4, [.inr 79, .inl 0, .inl 0, .inl 0, .inl 0])) := id rfl
theorem T_70 : q_T 70 = some (.inl (4, [.inr 80, .inl 0, .inl 0, .inl 0, .inl 0])) := id rfl
theorem T_71 : q_T 71 = some (.inl (4, [.inr 81, .inl 0, .inl 0, .inl 0, .inl 0])) := id rfl
theorem T_72 : q_T 72 = some (.inl (4, [.inr 82, .inl 0, .inl 0, .inl 0, .inl 0])) := id rfl
theorem T_73 : q_T 73 = some (.inl (4, [.inr 83, .inl 0, .inl 0, .inl 0, .inl 0])) := id rfl
theorem T_74 : q_T 74 = some (.inl (4, [.inr 84, .inl 0, .inl 0, .inl 0, .inl 0])) := id rfl
theorem T_75 : q_T 75 = some (.inr (.inl 0, 3)) := id rfl
theorem T_76 : q_T 76 = some (.inr (.inl 0, 3)) := id rfl
theorem T_77 : q_T 77 = some (.inr (.inl 0, 3)) := id rfl
theorem T_78 : q_T 78 = some (.inr (.inl 0, 3)) := id rfl
theorem T_79 : q_T 79 = some (.inr (.inl 0, 3)) := id rfl
theorem T_80 : q_T 80 = some (.inr (.inl 0, 3)) := id rfl
theorem T_81 : q_T 81 = some (.inr (.inl 0, 3)) := id rfl
theorem T_82 : q_T 82 = some (.inr (.inl 0, 3)) := id rfl
theorem T_83 : q_T 83 = some (.inr (.inl 0, 3)) := id rfl
theorem T_84 : q_T 84 = some (.inr (.inl 0, 3)) := id rfl
theorem T_85 : q_T 85 = some (.inl (11, [.inl 0, .inl 0, .inl 0, .inl 0, .inr 86, .inr 87, .inr 88, .inl 0, .inr 89, .inr 90, .inr 91, .inr 92, .inr 93, .inr 94, .inl 0, .inr 95, .inr 96, .inl 0, .inl 1, .inl 1, .inl 1, .inr 97, .inr 98, .inl 0, .inr 99, .inr 100, .inr 101, .inr 102, .inr 103, .inr 104, .inr 105, .inl 0, .inl 0, .inl 0, .inl 0, .inl 1, .inl 0, .inl 2])) := id rfl
theorem T_86 : q_T 86 = some (.inr (.inl 0, 576)) := id rfl
theorem T_87 : q_T 87 = some (.inr (.inl 0, 1728)) := id rfl
theorem T_88 : q_T 88 = some (.inr (.inl 2, 3)) := id rfl
theorem T_89 : q_T 89 = some (.inr (.inl 0, 10)) := id rfl
theorem T_90 : q_T 90 = some (.inr (.inl 0, 10)) := id rfl
theorem T_91 : q_T 91 = some (.inr (.inl 0, 10)) := id rfl
theorem T_92 : q_T 92 = some (.inr (.inl 0, 30)) := id rfl
theorem T_93 : q_T 93 = some (.inr (.inl 0, 10)) := id rfl
theorem T_94 : q_T 94 = some (.inr (.inl 2, 90)) := id rfl
theorem T_95 : q_T 95 = some (.inr (.inl 0, 100)) := id rfl
theorem T_96 : q_T 96 = some (.inr (.inl 0, 1440)) := id rfl
theorem T_97 : q_T 97 = some (.inr (.inl 1, 144)) := id rfl
theorem T_98 : q_T 98 = some (.inr (.inl 0, 144)) := id rfl
theorem T_99 : q_T 99 = some (.inr (.inl 0, 10)) := id rfl
theorem T_100 : q_T 100 = some (.inr (.inl 0, 10)) := id rfl
theorem T_101 : q_T 101 = some (.inr (.inl 0, 10)) := id rfl
theorem T_102 : q_T 102 = some (.inr (.inl 0, 30)) := id rfl
theorem T_103 : q_T 103 = some (.inr (.inl 0, 10)) := id rfl
theorem T_104 : q_T 104 = some (.inr (.inl 0, 26)) := id rfl
theorem T_105 : q_T 105 = some (.inr (.inl 0, 300)) := id rfl
theorem T_cell {i : Int} (h0 : 0 ≤ i) (h1 : i < 4) : q_T (4 + i) = some (.inr (.inl 0, 196)) := by
  have h : i = 0 ∨ i = 1 ∨ i = 2 ∨ i = 3 := by omega
  rcases h with rfl | rfl | rfl | rfl <;> rfl
theorem T_img {i : Int} (h0 : 0 ≤ i) (h1 : i < 3) : q_T (9 + i) = some (.inr (.inl 0, 784)) := by
  have h : i = 0 ∨ i = 1 ∨ i = 2 := by omega
  rcases h with rfl | rfl | rfl <;> rfl
theorem T_val {i : Int} (h0 : 0 ≤ i) (h1 : i < 10) : q_T (24 + i) = some (.inr (.inl 0, 196)) := by
  have h : i = 0 ∨ i = 1 ∨ i = 2 ∨ i = 3 ∨ i = 4 ∨ i = 5 ∨ i = 6 ∨ i = 7 ∨ i = 8 ∨ i = 9 := by omega
  rcases h with rfl | rfl | rfl | rfl | rfl | rfl | rfl | rfl | rfl | rfl <;> rfl
abbrev q_pl (P : Int) : Prop := P = 39 ∨ P = 62
theorem T_plan {P : Int} (h : q_pl P) : q_T P = some (.inl (2, [.inr (P + 1), .inr (P + 2), .inl 0])) := by rcases h with rfl | rfl <;> rfl
theorem T_recs {P : Int} (h : q_pl P) : q_T (P + 1) = some (.inr (.inr (4, P + 3), 10)) := by rcases h with rfl | rfl <;> rfl
theorem T_bof {P : Int} (h : q_pl P) : q_T (P + 2) = some (.inr (.inl 0, 26)) := by rcases h with rfl | rfl <;> rfl
/-- the names of the recipes -/
abbrev q_rc (r : Int) : Prop := (42 ≤ r ∧ r ≤ 51) ∨ (65 ≤ r ∧ r ≤ 74)
theorem T_rec {r : Int} (h : q_rc r) : q_T r = some (.inl (4, [.inr (r + 10), .inl 0, .inl 0, .inl 0, .inl 0])) := by
  have h : r = 42 ∨ r = 43 ∨ r = 44 ∨ r = 45 ∨ r = 46 ∨ r = 47 ∨ r = 48 ∨ r = 49 ∨ r = 50 ∨ r = 51 ∨ r = 65 ∨ r = 66 ∨ r = 67 ∨ r = 68 ∨ r = 69 ∨ r = 70 ∨ r = 71 ∨ r = 72 ∨ r = 73 ∨ r = 74 := by omega
  rcases h with rfl | rfl | rfl | rfl | rfl | rfl | rfl | rfl | rfl | rfl | rfl | rfl | rfl | rfl | rfl | rfl | rfl | rfl | rfl | rfl <;> rfl
theorem T_nmd {r : Int} (h : q_rc r) : q_T (r + 10) = some (.inr (.inl 0, 3)) := by
  have h : r = 42 ∨ r = 43 ∨ r = 44 ∨ r = 45 ∨ r = 46 ∨ r = 47 ∨ r = 48 ∨ r = 49 ∨ r = 50 ∨ r = 51 ∨ r = 65 ∨ r = 66 ∨ r = 67 ∨ r = 68 ∨ r = 69 ∨ r = 70 ∨ r = 71 ∨ r = 72 ∨ r = 73 ∨ r = 74 := by omega
  rcases h with rfl | rfl | rfl | rfl | rfl | rfl | rfl | rfl | rfl | rfl | rfl | rfl | rfl | rfl | rfl | rfl | rfl | rfl | rfl | rfl <;> rfl
def q_ktb (sk : QK) (ty : FieldType) : Bool := match sk, ty with
  | .inl 0, .int => true
  | .inl 1, .long => true
  | .inl 2, .boolean => true
  | .inl 3, .object _ => true
  | .inl 3, .array _ => true
  | .inr _, _ => true
  | _, _ => false
theorem q_ktS {sk : QK} {ty : FieldType} (h : q_ktb sk ty = true) : q_kt sk ty := by
  unfold q_ktb at h
  split at h
  · rfl
  · rfl
  · rfl
  · exact Or.inl ⟨_, rfl⟩
  · exact Or.inr ⟨_, rfl⟩
  · trivial
  · cases h
def q_kokb (q : vw_C) (ks : List QK) : Bool := decide (ks.length = q.2.2) && (List.range ks.length).all (fun k => match ks[k]?, parseFieldDescriptor (q.2.1 k).2.2.1 with
  | some sk, some ty => q_ktb sk ty
  | _, _ => false)
theorem q_kokS {q : vw_C} {ks : List QK} (h : q_kokb q ks = true) : q_kok q ks := by
  simp only [q_kokb, Bool.and_eq_true, decide_eq_true_eq, List.all_eq_true, List.mem_range] at h
  refine ⟨h.1, fun k sk hk => ?_⟩
  have hl : k < ks.length := (List.getElem?_eq_some_iff.mp hk).1
  have h2 := h.2 k hl
  rw [hk] at h2
  cases hp : parseFieldDescriptor (q.2.1 k).2.2.1 with
  | none => rw [hp] at h2; cases h2
  | some ty => rw [hp] at h2; exact ⟨ty, rfl, q_ktS h2⟩
def q_shb : Option QS → Bool
  | some (.inl (ci, ks)) => match vwCl[ci]? with
    | some q => q_kokb q ks
    | none => true
  | _ => true
theorem q_TL_ok : q_TL.all q_shb = true := by decide +kernel
theorem q_wokT : q_wok q_T q_N := by
  refine ⟨fun i j a h1 h2 => ?_, fun a sh h => ?_, fun a ci ks q h hq => ?_⟩
  · unfold q_N at h1 h2
    rw [List.getElem?_map] at h1 h2
    cases e1 : (List.range 106)[i]? with
    | none => rw [e1] at h1; cases h1
    | some x =>
      cases e2 : (List.range 106)[j]? with
      | none => rw [e2] at h2; cases h2
      | some y =>
        rw [e1] at h1
        rw [e2] at h2
        obtain ⟨l1, g1⟩ := List.getElem?_eq_some_iff.mp e1
        obtain ⟨l2, g2⟩ := List.getElem?_eq_some_iff.mp e2
        rw [List.getElem_range] at g1 g2
        have h1 : Int.ofNat x = a := Option.some.inj h1
        have h2 : Int.ofNat y = a := Option.some.inj h2
        have h3 : x = y := Int.ofNat.inj (h1.trans h2.symm)
        omega
  · cases a with
    | negSucc n => cases h
    | ofNat n =>
      have h' : (q_TL[n]?).getD none = some sh := h
      have hn : n < 106 := by
        cases e : q_TL[n]? with
        | none => rw [e] at h'; cases h'
        | some x =>
          have := (List.getElem?_eq_some_iff.mp e).1
          exact this
      exact ⟨List.mem_map.mpr ⟨n, List.mem_range.mpr hn, rfl⟩, Int.natCast_nonneg n⟩
  · cases a with
    | negSucc n => cases h
    | ofNat n =>
      have h' : (q_TL[n]?).getD none = some (.inl (ci, ks)) := h
      cases e : q_TL[n]? with
      | none => rw [e] at h'; cases h'
      | some x =>
        rw [e] at h'
        have h' : x = some (.inl (ci, ks)) := h'
        have := List.all_eq_true.mp q_TL_ok x (List.mem_of_getElem? e)
        rw [h'] at this
        have this : (match vwCl[ci]? with | some q => q_kokb q ks | none => true) = true := this
        rw [hq] at this
        exact q_kokS this
