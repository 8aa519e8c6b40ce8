/-! the world at the law's loop: where it lies, what it holds -/
theorem la_0 {x y : Nat} {a : Nat → Nat} {f : Nat → Nat → Nat} {g tk tv : Nat → Nat} {tf : Nat} : l_ad x y a f g tk tv tf 0 = x := rfl
theorem la_1 {x y : Nat} {a : Nat → Nat} {f : Nat → Nat → Nat} {g tk tv : Nat → Nat} {tf : Nat} : l_ad x y a f g tk tv tf 1 = (a 0) := rfl
theorem la_2 {x y : Nat} {a : Nat → Nat} {f : Nat → Nat → Nat} {g tk tv : Nat → Nat} {tf : Nat} : l_ad x y a f g tk tv tf 2 = (a 1) := rfl
theorem la_3 {x y : Nat} {a : Nat → Nat} {f : Nat → Nat → Nat} {g tk tv : Nat → Nat} {tf : Nat} : l_ad x y a f g tk tv tf 3 = (f 1 0) := rfl
theorem la_4 {x y : Nat} {a : Nat → Nat} {f : Nat → Nat → Nat} {g tk tv : Nat → Nat} {tf : Nat} : l_ad x y a f g tk tv tf 4 = (f 1 1) := rfl
theorem la_5 {x y : Nat} {a : Nat → Nat} {f : Nat → Nat → Nat} {g tk tv : Nat → Nat} {tf : Nat} : l_ad x y a f g tk tv tf 5 = (f 1 2) := rfl
theorem la_6 {x y : Nat} {a : Nat → Nat} {f : Nat → Nat → Nat} {g tk tv : Nat → Nat} {tf : Nat} : l_ad x y a f g tk tv tf 6 = (f 1 3) := rfl
theorem la_7 {x y : Nat} {a : Nat → Nat} {f : Nat → Nat → Nat} {g tk tv : Nat → Nat} {tf : Nat} : l_ad x y a f g tk tv tf 7 = (f 1 4) := rfl
theorem la_8 {x y : Nat} {a : Nat → Nat} {f : Nat → Nat → Nat} {g tk tv : Nat → Nat} {tf : Nat} : l_ad x y a f g tk tv tf 8 = (f 1 5) := rfl
theorem la_9 {x y : Nat} {a : Nat → Nat} {f : Nat → Nat → Nat} {g tk tv : Nat → Nat} {tf : Nat} : l_ad x y a f g tk tv tf 9 = (f 1 6) := rfl
theorem la_10 {x y : Nat} {a : Nat → Nat} {f : Nat → Nat → Nat} {g tk tv : Nat → Nat} {tf : Nat} : l_ad x y a f g tk tv tf 10 = (f 1 7) := rfl
theorem la_11 {x y : Nat} {a : Nat → Nat} {f : Nat → Nat → Nat} {g tk tv : Nat → Nat} {tf : Nat} : l_ad x y a f g tk tv tf 11 = (f 1 8) := rfl
theorem la_12 {x y : Nat} {a : Nat → Nat} {f : Nat → Nat → Nat} {g tk tv : Nat → Nat} {tf : Nat} : l_ad x y a f g tk tv tf 12 = (f 1 9) := rfl
theorem la_13 {x y : Nat} {a : Nat → Nat} {f : Nat → Nat → Nat} {g tk tv : Nat → Nat} {tf : Nat} : l_ad x y a f g tk tv tf 13 = (a 2) := rfl
theorem la_14 {x y : Nat} {a : Nat → Nat} {f : Nat → Nat → Nat} {g tk tv : Nat → Nat} {tf : Nat} : l_ad x y a f g tk tv tf 14 = (f 2 0) := rfl
theorem la_15 {x y : Nat} {a : Nat → Nat} {f : Nat → Nat → Nat} {g tk tv : Nat → Nat} {tf : Nat} : l_ad x y a f g tk tv tf 15 = (a 5) := rfl
theorem la_16 {x y : Nat} {a : Nat → Nat} {f : Nat → Nat → Nat} {g tk tv : Nat → Nat} {tf : Nat} : l_ad x y a f g tk tv tf 16 = (f 5 0) := rfl
theorem la_17 {x y : Nat} {a : Nat → Nat} {f : Nat → Nat → Nat} {g tk tv : Nat → Nat} {tf : Nat} : l_ad x y a f g tk tv tf 17 = (f 5 1) := rfl
theorem la_18 {x y : Nat} {a : Nat → Nat} {f : Nat → Nat → Nat} {g tk tv : Nat → Nat} {tf : Nat} : l_ad x y a f g tk tv tf 18 = (f 5 2) := rfl
theorem la_19 {x y : Nat} {a : Nat → Nat} {f : Nat → Nat → Nat} {g tk tv : Nat → Nat} {tf : Nat} : l_ad x y a f g tk tv tf 19 = (f 5 3) := rfl
theorem la_20 {x y : Nat} {a : Nat → Nat} {f : Nat → Nat → Nat} {g tk tv : Nat → Nat} {tf : Nat} : l_ad x y a f g tk tv tf 20 = (a 6) := rfl
theorem la_21 {x y : Nat} {a : Nat → Nat} {f : Nat → Nat → Nat} {g tk tv : Nat → Nat} {tf : Nat} : l_ad x y a f g tk tv tf 21 = (f 6 0) := rfl
theorem la_22 {x y : Nat} {a : Nat → Nat} {f : Nat → Nat → Nat} {g tk tv : Nat → Nat} {tf : Nat} : l_ad x y a f g tk tv tf 22 = (f 6 1) := rfl
theorem la_23 {x y : Nat} {a : Nat → Nat} {f : Nat → Nat → Nat} {g tk tv : Nat → Nat} {tf : Nat} : l_ad x y a f g tk tv tf 23 = (f 6 2) := rfl
theorem la_24 {x y : Nat} {a : Nat → Nat} {f : Nat → Nat → Nat} {g tk tv : Nat → Nat} {tf : Nat} : l_ad x y a f g tk tv tf 24 = (f 6 3) := rfl
theorem la_25 {x y : Nat} {a : Nat → Nat} {f : Nat → Nat → Nat} {g tk tv : Nat → Nat} {tf : Nat} : l_ad x y a f g tk tv tf 25 = (f 6 4) := rfl
theorem la_26 {x y : Nat} {a : Nat → Nat} {f : Nat → Nat → Nat} {g tk tv : Nat → Nat} {tf : Nat} : l_ad x y a f g tk tv tf 26 = (f 6 5) := rfl
theorem la_27 {x y : Nat} {a : Nat → Nat} {f : Nat → Nat → Nat} {g tk tv : Nat → Nat} {tf : Nat} : l_ad x y a f g tk tv tf 27 = (f 6 6) := rfl
theorem la_28 {x y : Nat} {a : Nat → Nat} {f : Nat → Nat → Nat} {g tk tv : Nat → Nat} {tf : Nat} : l_ad x y a f g tk tv tf 28 = (f 6 7) := rfl
theorem la_29 {x y : Nat} {a : Nat → Nat} {f : Nat → Nat → Nat} {g tk tv : Nat → Nat} {tf : Nat} : l_ad x y a f g tk tv tf 29 = (f 6 8) := rfl
theorem la_30 {x y : Nat} {a : Nat → Nat} {f : Nat → Nat → Nat} {g tk tv : Nat → Nat} {tf : Nat} : l_ad x y a f g tk tv tf 30 = (f 6 9) := rfl
theorem la_31 {x y : Nat} {a : Nat → Nat} {f : Nat → Nat → Nat} {g tk tv : Nat → Nat} {tf : Nat} : l_ad x y a f g tk tv tf 31 = (f 6 10) := rfl
theorem la_32 {x y : Nat} {a : Nat → Nat} {f : Nat → Nat → Nat} {g tk tv : Nat → Nat} {tf : Nat} : l_ad x y a f g tk tv tf 32 = (f 6 11) := rfl
theorem la_33 {x y : Nat} {a : Nat → Nat} {f : Nat → Nat → Nat} {g tk tv : Nat → Nat} {tf : Nat} : l_ad x y a f g tk tv tf 33 = (f 6 12) := rfl
theorem la_34 {x y : Nat} {a : Nat → Nat} {f : Nat → Nat → Nat} {g tk tv : Nat → Nat} {tf : Nat} : l_ad x y a f g tk tv tf 34 = (f 6 13) := rfl
theorem la_35 {x y : Nat} {a : Nat → Nat} {f : Nat → Nat → Nat} {g tk tv : Nat → Nat} {tf : Nat} : l_ad x y a f g tk tv tf 35 = (f 6 14) := rfl
theorem la_36 {x y : Nat} {a : Nat → Nat} {f : Nat → Nat → Nat} {g tk tv : Nat → Nat} {tf : Nat} : l_ad x y a f g tk tv tf 36 = (f 6 15) := rfl
theorem la_37 {x y : Nat} {a : Nat → Nat} {f : Nat → Nat → Nat} {g tk tv : Nat → Nat} {tf : Nat} : l_ad x y a f g tk tv tf 37 = (f 6 16) := rfl
theorem la_38 {x y : Nat} {a : Nat → Nat} {f : Nat → Nat → Nat} {g tk tv : Nat → Nat} {tf : Nat} : l_ad x y a f g tk tv tf 38 = (f 6 17) := rfl
theorem la_39 {x y : Nat} {a : Nat → Nat} {f : Nat → Nat → Nat} {g tk tv : Nat → Nat} {tf : Nat} : l_ad x y a f g tk tv tf 39 = (a 3) := rfl
theorem la_40 {x y : Nat} {a : Nat → Nat} {f : Nat → Nat → Nat} {g tk tv : Nat → Nat} {tf : Nat} : l_ad x y a f g tk tv tf 40 = (f 3 0) := rfl
theorem la_41 {x y : Nat} {a : Nat → Nat} {f : Nat → Nat → Nat} {g tk tv : Nat → Nat} {tf : Nat} : l_ad x y a f g tk tv tf 41 = (f 3 1) := rfl
theorem la_42 {x y : Nat} {a : Nat → Nat} {f : Nat → Nat → Nat} {g tk tv : Nat → Nat} {tf : Nat} : l_ad x y a f g tk tv tf 42 = (f 3 2) := rfl
theorem la_43 {x y : Nat} {a : Nat → Nat} {f : Nat → Nat → Nat} {g tk tv : Nat → Nat} {tf : Nat} : l_ad x y a f g tk tv tf 43 = (f 3 4) := rfl
theorem la_44 {x y : Nat} {a : Nat → Nat} {f : Nat → Nat → Nat} {g tk tv : Nat → Nat} {tf : Nat} : l_ad x y a f g tk tv tf 44 = (f 3 6) := rfl
theorem la_45 {x y : Nat} {a : Nat → Nat} {f : Nat → Nat → Nat} {g tk tv : Nat → Nat} {tf : Nat} : l_ad x y a f g tk tv tf 45 = (f 3 8) := rfl
theorem la_46 {x y : Nat} {a : Nat → Nat} {f : Nat → Nat → Nat} {g tk tv : Nat → Nat} {tf : Nat} : l_ad x y a f g tk tv tf 46 = (f 3 10) := rfl
theorem la_47 {x y : Nat} {a : Nat → Nat} {f : Nat → Nat → Nat} {g tk tv : Nat → Nat} {tf : Nat} : l_ad x y a f g tk tv tf 47 = (f 3 12) := rfl
theorem la_48 {x y : Nat} {a : Nat → Nat} {f : Nat → Nat → Nat} {g tk tv : Nat → Nat} {tf : Nat} : l_ad x y a f g tk tv tf 48 = (f 3 14) := rfl
theorem la_49 {x y : Nat} {a : Nat → Nat} {f : Nat → Nat → Nat} {g tk tv : Nat → Nat} {tf : Nat} : l_ad x y a f g tk tv tf 49 = (f 3 16) := rfl
theorem la_50 {x y : Nat} {a : Nat → Nat} {f : Nat → Nat → Nat} {g tk tv : Nat → Nat} {tf : Nat} : l_ad x y a f g tk tv tf 50 = (f 3 18) := rfl
theorem la_51 {x y : Nat} {a : Nat → Nat} {f : Nat → Nat → Nat} {g tk tv : Nat → Nat} {tf : Nat} : l_ad x y a f g tk tv tf 51 = (f 3 20) := rfl
theorem la_52 {x y : Nat} {a : Nat → Nat} {f : Nat → Nat → Nat} {g tk tv : Nat → Nat} {tf : Nat} : l_ad x y a f g tk tv tf 52 = (f 3 3) := rfl
theorem la_53 {x y : Nat} {a : Nat → Nat} {f : Nat → Nat → Nat} {g tk tv : Nat → Nat} {tf : Nat} : l_ad x y a f g tk tv tf 53 = (f 3 5) := rfl
theorem la_54 {x y : Nat} {a : Nat → Nat} {f : Nat → Nat → Nat} {g tk tv : Nat → Nat} {tf : Nat} : l_ad x y a f g tk tv tf 54 = (f 3 7) := rfl
theorem la_55 {x y : Nat} {a : Nat → Nat} {f : Nat → Nat → Nat} {g tk tv : Nat → Nat} {tf : Nat} : l_ad x y a f g tk tv tf 55 = (f 3 9) := rfl
theorem la_56 {x y : Nat} {a : Nat → Nat} {f : Nat → Nat → Nat} {g tk tv : Nat → Nat} {tf : Nat} : l_ad x y a f g tk tv tf 56 = (f 3 11) := rfl
theorem la_57 {x y : Nat} {a : Nat → Nat} {f : Nat → Nat → Nat} {g tk tv : Nat → Nat} {tf : Nat} : l_ad x y a f g tk tv tf 57 = (f 3 13) := rfl
theorem la_58 {x y : Nat} {a : Nat → Nat} {f : Nat → Nat → Nat} {g tk tv : Nat → Nat} {tf : Nat} : l_ad x y a f g tk tv tf 58 = (f 3 15) := rfl
theorem la_59 {x y : Nat} {a : Nat → Nat} {f : Nat → Nat → Nat} {g tk tv : Nat → Nat} {tf : Nat} : l_ad x y a f g tk tv tf 59 = (f 3 17) := rfl
theorem la_60 {x y : Nat} {a : Nat → Nat} {f : Nat → Nat → Nat} {g tk tv : Nat → Nat} {tf : Nat} : l_ad x y a f g tk tv tf 60 = (f 3 19) := rfl
theorem la_61 {x y : Nat} {a : Nat → Nat} {f : Nat → Nat → Nat} {g tk tv : Nat → Nat} {tf : Nat} : l_ad x y a f g tk tv tf 61 = (f 3 21) := rfl
theorem la_62 {x y : Nat} {a : Nat → Nat} {f : Nat → Nat → Nat} {g tk tv : Nat → Nat} {tf : Nat} : l_ad x y a f g tk tv tf 62 = (a 4) := rfl
theorem la_63 {x y : Nat} {a : Nat → Nat} {f : Nat → Nat → Nat} {g tk tv : Nat → Nat} {tf : Nat} : l_ad x y a f g tk tv tf 63 = (f 4 0) := rfl
theorem la_64 {x y : Nat} {a : Nat → Nat} {f : Nat → Nat → Nat} {g tk tv : Nat → Nat} {tf : Nat} : l_ad x y a f g tk tv tf 64 = (f 4 1) := rfl
theorem la_65 {x y : Nat} {a : Nat → Nat} {f : Nat → Nat → Nat} {g tk tv : Nat → Nat} {tf : Nat} : l_ad x y a f g tk tv tf 65 = (f 4 2) := rfl
theorem la_66 {x y : Nat} {a : Nat → Nat} {f : Nat → Nat → Nat} {g tk tv : Nat → Nat} {tf : Nat} : l_ad x y a f g tk tv tf 66 = (f 4 4) := rfl
theorem la_67 {x y : Nat} {a : Nat → Nat} {f : Nat → Nat → Nat} {g tk tv : Nat → Nat} {tf : Nat} : l_ad x y a f g tk tv tf 67 = (f 4 6) := rfl
theorem la_68 {x y : Nat} {a : Nat → Nat} {f : Nat → Nat → Nat} {g tk tv : Nat → Nat} {tf : Nat} : l_ad x y a f g tk tv tf 68 = (f 4 8) := rfl
theorem la_69 {x y : Nat} {a : Nat → Nat} {f : Nat → Nat → Nat} {g tk tv : Nat → Nat} {tf : Nat} : l_ad x y a f g tk tv tf 69 = (f 4 10) := rfl
theorem la_70 {x y : Nat} {a : Nat → Nat} {f : Nat → Nat → Nat} {g tk tv : Nat → Nat} {tf : Nat} : l_ad x y a f g tk tv tf 70 = (f 4 12) := rfl
theorem la_71 {x y : Nat} {a : Nat → Nat} {f : Nat → Nat → Nat} {g tk tv : Nat → Nat} {tf : Nat} : l_ad x y a f g tk tv tf 71 = (f 4 14) := rfl
theorem la_72 {x y : Nat} {a : Nat → Nat} {f : Nat → Nat → Nat} {g tk tv : Nat → Nat} {tf : Nat} : l_ad x y a f g tk tv tf 72 = (f 4 16) := rfl
theorem la_73 {x y : Nat} {a : Nat → Nat} {f : Nat → Nat → Nat} {g tk tv : Nat → Nat} {tf : Nat} : l_ad x y a f g tk tv tf 73 = (f 4 18) := rfl
theorem la_74 {x y : Nat} {a : Nat → Nat} {f : Nat → Nat → Nat} {g tk tv : Nat → Nat} {tf : Nat} : l_ad x y a f g tk tv tf 74 = (f 4 20) := rfl
theorem la_75 {x y : Nat} {a : Nat → Nat} {f : Nat → Nat → Nat} {g tk tv : Nat → Nat} {tf : Nat} : l_ad x y a f g tk tv tf 75 = (f 4 3) := rfl
theorem la_76 {x y : Nat} {a : Nat → Nat} {f : Nat → Nat → Nat} {g tk tv : Nat → Nat} {tf : Nat} : l_ad x y a f g tk tv tf 76 = (f 4 5) := rfl
theorem la_77 {x y : Nat} {a : Nat → Nat} {f : Nat → Nat → Nat} {g tk tv : Nat → Nat} {tf : Nat} : l_ad x y a f g tk tv tf 77 = (f 4 7) := rfl
theorem la_78 {x y : Nat} {a : Nat → Nat} {f : Nat → Nat → Nat} {g tk tv : Nat → Nat} {tf : Nat} : l_ad x y a f g tk tv tf 78 = (f 4 9) := rfl
theorem la_79 {x y : Nat} {a : Nat → Nat} {f : Nat → Nat → Nat} {g tk tv : Nat → Nat} {tf : Nat} : l_ad x y a f g tk tv tf 79 = (f 4 11) := rfl
theorem la_80 {x y : Nat} {a : Nat → Nat} {f : Nat → Nat → Nat} {g tk tv : Nat → Nat} {tf : Nat} : l_ad x y a f g tk tv tf 80 = (f 4 13) := rfl
theorem la_81 {x y : Nat} {a : Nat → Nat} {f : Nat → Nat → Nat} {g tk tv : Nat → Nat} {tf : Nat} : l_ad x y a f g tk tv tf 81 = (f 4 15) := rfl
theorem la_82 {x y : Nat} {a : Nat → Nat} {f : Nat → Nat → Nat} {g tk tv : Nat → Nat} {tf : Nat} : l_ad x y a f g tk tv tf 82 = (f 4 17) := rfl
theorem la_83 {x y : Nat} {a : Nat → Nat} {f : Nat → Nat → Nat} {g tk tv : Nat → Nat} {tf : Nat} : l_ad x y a f g tk tv tf 83 = (f 4 19) := rfl
theorem la_84 {x y : Nat} {a : Nat → Nat} {f : Nat → Nat → Nat} {g tk tv : Nat → Nat} {tf : Nat} : l_ad x y a f g tk tv tf 84 = (f 4 21) := rfl
theorem la_85 {x y : Nat} {a : Nat → Nat} {f : Nat → Nat → Nat} {g tk tv : Nat → Nat} {tf : Nat} : l_ad x y a f g tk tv tf 85 = y := rfl
theorem la_86 {x y : Nat} {a : Nat → Nat} {f : Nat → Nat → Nat} {g tk tv : Nat → Nat} {tf : Nat} : l_ad x y a f g tk tv tf 86 = (g 0) := rfl
theorem la_87 {x y : Nat} {a : Nat → Nat} {f : Nat → Nat → Nat} {g tk tv : Nat → Nat} {tf : Nat} : l_ad x y a f g tk tv tf 87 = (g 1) := rfl
theorem la_88 {x y : Nat} {a : Nat → Nat} {f : Nat → Nat → Nat} {g tk tv : Nat → Nat} {tf : Nat} : l_ad x y a f g tk tv tf 88 = (g 2) := rfl
theorem la_89 {x y : Nat} {a : Nat → Nat} {f : Nat → Nat → Nat} {g tk tv : Nat → Nat} {tf : Nat} : l_ad x y a f g tk tv tf 89 = (g 3) := rfl
theorem la_90 {x y : Nat} {a : Nat → Nat} {f : Nat → Nat → Nat} {g tk tv : Nat → Nat} {tf : Nat} : l_ad x y a f g tk tv tf 90 = (g 4) := rfl
theorem la_91 {x y : Nat} {a : Nat → Nat} {f : Nat → Nat → Nat} {g tk tv : Nat → Nat} {tf : Nat} : l_ad x y a f g tk tv tf 91 = (g 5) := rfl
theorem la_92 {x y : Nat} {a : Nat → Nat} {f : Nat → Nat → Nat} {g tk tv : Nat → Nat} {tf : Nat} : l_ad x y a f g tk tv tf 92 = (g 6) := rfl
theorem la_93 {x y : Nat} {a : Nat → Nat} {f : Nat → Nat → Nat} {g tk tv : Nat → Nat} {tf : Nat} : l_ad x y a f g tk tv tf 93 = (g 7) := rfl
theorem la_94 {x y : Nat} {a : Nat → Nat} {f : Nat → Nat → Nat} {g tk tv : Nat → Nat} {tf : Nat} : l_ad x y a f g tk tv tf 94 = (g 8) := rfl
theorem la_95 {x y : Nat} {a : Nat → Nat} {f : Nat → Nat → Nat} {g tk tv : Nat → Nat} {tf : Nat} : l_ad x y a f g tk tv tf 95 = (g 9) := rfl
theorem la_96 {x y : Nat} {a : Nat → Nat} {f : Nat → Nat → Nat} {g tk tv : Nat → Nat} {tf : Nat} : l_ad x y a f g tk tv tf 96 = (g 10) := rfl
theorem la_97 {x y : Nat} {a : Nat → Nat} {f : Nat → Nat → Nat} {g tk tv : Nat → Nat} {tf : Nat} : l_ad x y a f g tk tv tf 97 = (g 11) := rfl
theorem la_98 {x y : Nat} {a : Nat → Nat} {f : Nat → Nat → Nat} {g tk tv : Nat → Nat} {tf : Nat} : l_ad x y a f g tk tv tf 98 = (g 12) := rfl
theorem la_99 {x y : Nat} {a : Nat → Nat} {f : Nat → Nat → Nat} {g tk tv : Nat → Nat} {tf : Nat} : l_ad x y a f g tk tv tf 99 = (g 13) := rfl
theorem la_100 {x y : Nat} {a : Nat → Nat} {f : Nat → Nat → Nat} {g tk tv : Nat → Nat} {tf : Nat} : l_ad x y a f g tk tv tf 100 = (g 14) := rfl
theorem la_101 {x y : Nat} {a : Nat → Nat} {f : Nat → Nat → Nat} {g tk tv : Nat → Nat} {tf : Nat} : l_ad x y a f g tk tv tf 101 = (g 15) := rfl
theorem la_102 {x y : Nat} {a : Nat → Nat} {f : Nat → Nat → Nat} {g tk tv : Nat → Nat} {tf : Nat} : l_ad x y a f g tk tv tf 102 = (g 16) := rfl
theorem la_103 {x y : Nat} {a : Nat → Nat} {f : Nat → Nat → Nat} {g tk tv : Nat → Nat} {tf : Nat} : l_ad x y a f g tk tv tf 103 = (g 17) := rfl
theorem la_104 {x y : Nat} {a : Nat → Nat} {f : Nat → Nat → Nat} {g tk tv : Nat → Nat} {tf : Nat} : l_ad x y a f g tk tv tf 104 = (g 18) := rfl
theorem la_105 {x y : Nat} {a : Nat → Nat} {f : Nat → Nat → Nat} {g tk tv : Nat → Nat} {tf : Nat} : l_ad x y a f g tk tv tf 105 = (g 19) := rfl
theorem kk_1 (j : Int) : k_all 1 j = k_G 1 j := by
  unfold k_all
  rw [if_neg (by decide), if_pos (by decide)]
theorem kk_2 (j : Int) : k_all 2 j = k_S 2 j := by
  unfold k_all
  rw [if_neg (by decide), if_neg (by decide), if_pos (by decide)]
theorem kk_3 (j : Int) : k_all 3 j = k_S 3 j := by
  unfold k_all
  rw [if_neg (by decide), if_neg (by decide), if_pos (by decide)]
theorem kk_4 (j : Int) : k_all 4 j = k_S 4 j := by
  unfold k_all
  rw [if_neg (by decide), if_neg (by decide), if_pos (by decide)]
theorem kk_5 (j : Int) : k_all 5 j = k_S 5 j := by
  unfold k_all
  rw [if_neg (by decide), if_neg (by decide), if_pos (by decide)]
theorem kk_6 (j : Int) : k_all 6 j = k_S 6 j := by
  unfold k_all
  rw [if_neg (by decide), if_neg (by decide), if_pos (by decide)]
theorem kk_7 (j : Int) : k_all 7 j = k_S 7 j := by
  unfold k_all
  rw [if_neg (by decide), if_neg (by decide), if_pos (by decide)]
theorem kk_8 (j : Int) : k_all 8 j = k_S 8 j := by
  unfold k_all
  rw [if_neg (by decide), if_neg (by decide), if_pos (by decide)]
theorem kk_9 (j : Int) : k_all 9 j = k_S 9 j := by
  unfold k_all
  rw [if_neg (by decide), if_neg (by decide), if_pos (by decide)]
theorem kk_10 (j : Int) : k_all 10 j = k_S 10 j := by
  unfold k_all
  rw [if_neg (by decide), if_neg (by decide), if_pos (by decide)]
theorem kk_11 (j : Int) : k_all 11 j = k_S 11 j := by
  unfold k_all
  rw [if_neg (by decide), if_neg (by decide), if_pos (by decide)]
theorem kk_12 (j : Int) : k_all 12 j = k_S 12 j := by
  unfold k_all
  rw [if_neg (by decide), if_neg (by decide), if_pos (by decide)]
theorem kz_13 (j : Int) : k_all 13 j = 0 := by
  unfold k_all
  rw [if_neg (by decide), if_neg (by decide), if_neg (by decide), if_pos (by decide)]
theorem kz_14 (j : Int) : k_all 14 j = 0 := by
  unfold k_all
  rw [if_neg (by decide), if_neg (by decide), if_neg (by decide), if_pos (by decide)]
theorem kz_16 (j : Int) : k_all 16 j = 0 := by
  unfold k_all
  rw [if_neg (by decide), if_neg (by decide), if_neg (by decide), if_neg (by decide), if_pos (by decide)]
  rw [if_neg (fun h => absurd h.1 (by decide))]
theorem kz_17 (j : Int) : k_all 17 j = 0 := by
  unfold k_all
  rw [if_neg (by decide), if_neg (by decide), if_neg (by decide), if_neg (by decide), if_pos (by decide)]
  rw [if_neg (fun h => absurd h.1 (by decide))]
theorem kz_18 (j : Int) : k_all 18 j = 0 := by
  unfold k_all
  rw [if_neg (by decide), if_neg (by decide), if_neg (by decide), if_neg (by decide), if_pos (by decide)]
  rw [if_neg (fun h => absurd h.1 (by decide))]
theorem kz_19 (j : Int) : k_all 19 j = 0 := by
  unfold k_all
  rw [if_neg (by decide), if_neg (by decide), if_neg (by decide), if_neg (by decide), if_pos (by decide)]
  rw [if_neg (fun h => absurd h.1 (by decide))]
theorem kk_20 (j : Int) : k_all 20 j = k_W 20 j := by
  unfold k_all
  rw [if_neg (by decide), if_neg (by decide), if_neg (by decide), if_neg (by decide), if_neg (by decide), if_pos (by decide)]
theorem kk_21 (j : Int) : k_all 21 j = k_W 21 j := by
  unfold k_all
  rw [if_neg (by decide), if_neg (by decide), if_neg (by decide), if_neg (by decide), if_neg (by decide), if_pos (by decide)]
theorem kk_22 (j : Int) : k_all 22 j = k_W 22 j := by
  unfold k_all
  rw [if_neg (by decide), if_neg (by decide), if_neg (by decide), if_neg (by decide), if_neg (by decide), if_pos (by decide)]
theorem kk_23 (j : Int) : k_all 23 j = k_W 23 j := by
  unfold k_all
  rw [if_neg (by decide), if_neg (by decide), if_neg (by decide), if_neg (by decide), if_neg (by decide), if_pos (by decide)]
theorem kk_24 (j : Int) : k_all 24 j = k_W 24 j := by
  unfold k_all
  rw [if_neg (by decide), if_neg (by decide), if_neg (by decide), if_neg (by decide), if_neg (by decide), if_pos (by decide)]
theorem kk_25 (j : Int) : k_all 25 j = k_W 25 j := by
  unfold k_all
  rw [if_neg (by decide), if_neg (by decide), if_neg (by decide), if_neg (by decide), if_neg (by decide), if_pos (by decide)]
theorem kk_26 (j : Int) : k_all 26 j = k_W 26 j := by
  unfold k_all
  rw [if_neg (by decide), if_neg (by decide), if_neg (by decide), if_neg (by decide), if_neg (by decide), if_pos (by decide)]
theorem kk_27 (j : Int) : k_all 27 j = k_W 27 j := by
  unfold k_all
  rw [if_neg (by decide), if_neg (by decide), if_neg (by decide), if_neg (by decide), if_neg (by decide), if_pos (by decide)]
theorem kk_28 (j : Int) : k_all 28 j = k_W 28 j := by
  unfold k_all
  rw [if_neg (by decide), if_neg (by decide), if_neg (by decide), if_neg (by decide), if_neg (by decide), if_pos (by decide)]
theorem kk_29 (j : Int) : k_all 29 j = k_W 29 j := by
  unfold k_all
  rw [if_neg (by decide), if_neg (by decide), if_neg (by decide), if_neg (by decide), if_neg (by decide), if_pos (by decide)]
theorem kk_30 (j : Int) : k_all 30 j = k_W 30 j := by
  unfold k_all
  rw [if_neg (by decide), if_neg (by decide), if_neg (by decide), if_neg (by decide), if_neg (by decide), if_pos (by decide)]
theorem kk_31 (j : Int) : k_all 31 j = k_W 31 j := by
  unfold k_all
  rw [if_neg (by decide), if_neg (by decide), if_neg (by decide), if_neg (by decide), if_neg (by decide), if_pos (by decide)]
theorem kk_32 (j : Int) : k_all 32 j = k_W 32 j := by
  unfold k_all
  rw [if_neg (by decide), if_neg (by decide), if_neg (by decide), if_neg (by decide), if_neg (by decide), if_pos (by decide)]
theorem kk_33 (j : Int) : k_all 33 j = k_W 33 j := by
  unfold k_all
  rw [if_neg (by decide), if_neg (by decide), if_neg (by decide), if_neg (by decide), if_neg (by decide), if_pos (by decide)]
theorem kk_34 (j : Int) : k_all 34 j = k_W 34 j := by
  unfold k_all
  rw [if_neg (by decide), if_neg (by decide), if_neg (by decide), if_neg (by decide), if_neg (by decide), if_pos (by decide)]
theorem kk_35 (j : Int) : k_all 35 j = k_W 35 j := by
  unfold k_all
  rw [if_neg (by decide), if_neg (by decide), if_neg (by decide), if_neg (by decide), if_neg (by decide), if_pos (by decide)]
theorem kk_36 (j : Int) : k_all 36 j = k_W 36 j := by
  unfold k_all
  rw [if_neg (by decide), if_neg (by decide), if_neg (by decide), if_neg (by decide), if_neg (by decide), if_pos (by decide)]
theorem kk_37 (j : Int) : k_all 37 j = k_W 37 j := by
  unfold k_all
  rw [if_neg (by decide), if_neg (by decide), if_neg (by decide), if_neg (by decide), if_neg (by decide), if_pos (by decide)]
theorem kk_38 (j : Int) : k_all 38 j = k_W 38 j := by
  unfold k_all
  rw [if_neg (by decide), if_neg (by decide), if_neg (by decide), if_neg (by decide), if_neg (by decide), if_pos (by decide)]
theorem kk_39 (j : Int) : k_all 39 j = k_P 39 39 j := by
  unfold k_all
  rw [if_neg (by decide), if_neg (by decide), if_neg (by decide), if_neg (by decide), if_neg (by decide), if_neg (by decide), if_pos (by decide)]
theorem kk_40 (j : Int) : k_all 40 j = k_P 39 40 j := by
  unfold k_all
  rw [if_neg (by decide), if_neg (by decide), if_neg (by decide), if_neg (by decide), if_neg (by decide), if_neg (by decide), if_pos (by decide)]
theorem kk_41 (j : Int) : k_all 41 j = k_P 39 41 j := by
  unfold k_all
  rw [if_neg (by decide), if_neg (by decide), if_neg (by decide), if_neg (by decide), if_neg (by decide), if_neg (by decide), if_pos (by decide)]
theorem kk_42 (j : Int) : k_all 42 j = k_P 39 42 j := by
  unfold k_all
  rw [if_neg (by decide), if_neg (by decide), if_neg (by decide), if_neg (by decide), if_neg (by decide), if_neg (by decide), if_pos (by decide)]
theorem kk_43 (j : Int) : k_all 43 j = k_P 39 43 j := by
  unfold k_all
  rw [if_neg (by decide), if_neg (by decide), if_neg (by decide), if_neg (by decide), if_neg (by decide), if_neg (by decide), if_pos (by decide)]
theorem kk_44 (j : Int) : k_all 44 j = k_P 39 44 j := by
  unfold k_all
  rw [if_neg (by decide), if_neg (by decide), if_neg (by decide), if_neg (by decide), if_neg (by decide), if_neg (by decide), if_pos (by decide)]
theorem kk_45 (j : Int) : k_all 45 j = k_P 39 45 j := by
  unfold k_all
  rw [if_neg (by decide), if_neg (by decide), if_neg (by decide), if_neg (by decide), if_neg (by decide), if_neg (by decide), if_pos (by decide)]
theorem kk_46 (j : Int) : k_all 46 j = k_P 39 46 j := by
  unfold k_all
  rw [if_neg (by decide), if_neg (by decide), if_neg (by decide), if_neg (by decide), if_neg (by decide), if_neg (by decide), if_pos (by decide)]
theorem kk_47 (j : Int) : k_all 47 j = k_P 39 47 j := by
  unfold k_all
  rw [if_neg (by decide), if_neg (by decide), if_neg (by decide), if_neg (by decide), if_neg (by decide), if_neg (by decide), if_pos (by decide)]
theorem kk_48 (j : Int) : k_all 48 j = k_P 39 48 j := by
  unfold k_all
  rw [if_neg (by decide), if_neg (by decide), if_neg (by decide), if_neg (by decide), if_neg (by decide), if_neg (by decide), if_pos (by decide)]
theorem kk_49 (j : Int) : k_all 49 j = k_P 39 49 j := by
  unfold k_all
  rw [if_neg (by decide), if_neg (by decide), if_neg (by decide), if_neg (by decide), if_neg (by decide), if_neg (by decide), if_pos (by decide)]
theorem kk_50 (j : Int) : k_all 50 j = k_P 39 50 j := by
  unfold k_all
  rw [if_neg (by decide), if_neg (by decide), if_neg (by decide), if_neg (by decide), if_neg (by decide), if_neg (by decide), if_pos (by decide)]
theorem kk_51 (j : Int) : k_all 51 j = k_P 39 51 j := by
  unfold k_all
  rw [if_neg (by decide), if_neg (by decide), if_neg (by decide), if_neg (by decide), if_neg (by decide), if_neg (by decide), if_pos (by decide)]
theorem kk_52 (j : Int) : k_all 52 j = k_P 39 52 j := by
  unfold k_all
  rw [if_neg (by decide), if_neg (by decide), if_neg (by decide), if_neg (by decide), if_neg (by decide), if_neg (by decide), if_pos (by decide)]
theorem kk_53 (j : Int) : k_all 53 j = k_P 39 53 j := by
  unfold k_all
  rw [if_neg (by decide), if_neg (by decide), if_neg (by decide), if_neg (by decide), if_neg (by decide), if_neg (by decide), if_pos (by decide)]
theorem kk_54 (j : Int) : k_all 54 j = k_P 39 54 j := by
  unfold k_all
  rw [if_neg (by decide), if_neg (by decide), if_neg (by decide), if_neg (by decide), if_neg (by decide), if_neg (by decide), if_pos (by decide)]
theorem kk_55 (j : Int) : k_all 55 j = k_P 39 55 j := by
  unfold k_all
  rw [if_neg (by decide), if_neg (by decide), if_neg (by decide), if_neg (by decide), if_neg (by decide), if_neg (by decide), if_pos (by decide)]
theorem kk_56 (j : Int) : k_all 56 j = k_P 39 56 j := by
  unfold k_all
  rw [if_neg (by decide), if_neg (by decide), if_neg (by decide), if_neg (by decide), if_neg (by decide), if_neg (by decide), if_pos (by decide)]
theorem kk_57 (j : Int) : k_all 57 j = k_P 39 57 j := by
  unfold k_all
  rw [if_neg (by decide), if_neg (by decide), if_neg (by decide), if_neg (by decide), if_neg (by decide), if_neg (by decide), if_pos (by decide)]
theorem kk_58 (j : Int) : k_all 58 j = k_P 39 58 j := by
  unfold k_all
  rw [if_neg (by decide), if_neg (by decide), if_neg (by decide), if_neg (by decide), if_neg (by decide), if_neg (by decide), if_pos (by decide)]
theorem kk_59 (j : Int) : k_all 59 j = k_P 39 59 j := by
  unfold k_all
  rw [if_neg (by decide), if_neg (by decide), if_neg (by decide), if_neg (by decide), if_neg (by decide), if_neg (by decide), if_pos (by decide)]
theorem kk_60 (j : Int) : k_all 60 j = k_P 39 60 j := by
  unfold k_all
  rw [if_neg (by decide), if_neg (by decide), if_neg (by decide), if_neg (by decide), if_neg (by decide), if_neg (by decide), if_pos (by decide)]
theorem kk_61 (j : Int) : k_all 61 j = k_P 39 61 j := by
  unfold k_all
  rw [if_neg (by decide), if_neg (by decide), if_neg (by decide), if_neg (by decide), if_neg (by decide), if_neg (by decide), if_pos (by decide)]
theorem kk_62 (j : Int) : k_all 62 j = k_P 62 62 j := by
  unfold k_all
  rw [if_neg (by decide), if_neg (by decide), if_neg (by decide), if_neg (by decide), if_neg (by decide), if_neg (by decide), if_neg (by decide), if_pos (by decide)]
theorem kk_63 (j : Int) : k_all 63 j = k_P 62 63 j := by
  unfold k_all
  rw [if_neg (by decide), if_neg (by decide), if_neg (by decide), if_neg (by decide), if_neg (by decide), if_neg (by decide), if_neg (by decide), if_pos (by decide)]
theorem kk_64 (j : Int) : k_all 64 j = k_P 62 64 j := by
  unfold k_all
  rw [if_neg (by decide), if_neg (by decide), if_neg (by decide), if_neg (by decide), if_neg (by decide), if_neg (by decide), if_neg (by decide), if_pos (by decide)]
theorem kk_65 (j : Int) : k_all 65 j = k_P 62 65 j := by
  unfold k_all
  rw [if_neg (by decide), if_neg (by decide), if_neg (by decide), if_neg (by decide), if_neg (by decide), if_neg (by decide), if_neg (by decide), if_pos (by decide)]
theorem kk_66 (j : Int) : k_all 66 j = k_P 62 66 j := by
  unfold k_all
  rw [if_neg (by decide), if_neg (by decide), if_neg (by decide), if_neg (by decide), if_neg (by decide), if_neg (by decide), if_neg (by decide), if_pos (by decide)]
theorem kk_67 (j : Int) : k_all 67 j = k_P 62 67 j := by
  unfold k_all
  rw [if_neg (by decide), if_neg (by decide), if_neg (by decide), if_neg (by decide), if_neg (by decide), if_neg (by decide), if_neg (by decide), if_pos (by decide)]
theorem kk_68 (j : Int) : k_all 68 j = k_P 62 68 j := by
  unfold k_all
  rw [if_neg (by decide), if_neg (by decide), if_neg (by decide), if_neg (by decide), if_neg (by decide), if_neg (by decide), if_neg (by decide), if_pos (by decide)]
theorem kk_69 (j : Int) : k_all 69 j = k_P 62 69 j := by
  unfold k_all
  rw [if_neg (by decide), if_neg (by decide), if_neg (by decide), if_neg (by decide), if_neg (by decide), if_neg (by decide), if_neg (by decide), if_pos (by decide)]
theorem kk_70 (j : Int) : k_all 70 j = k_P 62 70 j := by
  unfold k_all
  rw [if_neg (by decide), if_neg (by decide), if_neg (by decide), if_neg (by decide), if_neg (by decide), if_neg (by decide), if_neg (by decide), if_pos (by decide)]
theorem kk_71 (j : Int) : k_all 71 j = k_P 62 71 j := by
  unfold k_all
  rw [if_neg (by decide), if_neg (by decide), if_neg (by decide), if_neg (by decide), if_neg (by decide), if_neg (by decide), if_neg (by decide), if_pos (by decide)]
theorem kk_72 (j : Int) : k_all 72 j = k_P 62 72 j := by
  unfold k_all
  rw [if_neg (by decide), if_neg (by decide), if_neg (by decide), if_neg (by decide), if_neg (by decide), if_neg (by decide), if_neg (by decide), if_pos (by decide)]
theorem kk_73 (j : Int) : k_all 73 j = k_P 62 73 j := by
  unfold k_all
  rw [if_neg (by decide), if_neg (by decide), if_neg (by decide), if_neg (by decide), if_neg (by decide), if_neg (by decide), if_neg (by decide), if_pos (by decide)]
theorem kk_74 (j : Int) : k_all 74 j = k_P 62 74 j := by
  unfold k_all
  rw [if_neg (by decide), if_neg (by decide), if_neg (by decide), if_neg (by decide), if_neg (by decide), if_neg (by decide), if_neg (by decide), if_pos (by decide)]
theorem kk_75 (j : Int) : k_all 75 j = k_P 62 75 j := by
  unfold k_all
  rw [if_neg (by decide), if_neg (by decide), if_neg (by decide), if_neg (by decide), if_neg (by decide), if_neg (by decide), if_neg (by decide), if_pos (by decide)]
theorem kk_76 (j : Int) : k_all 76 j = k_P 62 76 j := by
  unfold k_all
  rw [if_neg (by decide), if_neg (by decide), if_neg (by decide), if_neg (by decide), if_neg (by decide), if_neg (by decide), if_neg (by decide), if_pos (by decide)]
theorem kk_77 (j : Int) : k_all 77 j = k_P 62 77 j := by
  unfold k_all
  rw [if_neg (by decide), if_neg (by decide), if_neg (by decide), if_neg (by decide), if_neg (by decide), if_neg (by decide), if_neg (by decide), if_pos (by decide)]
theorem kk_78 (j : Int) : k_all 78 j = k_P 62 78 j := by
  unfold k_all
  rw [if_neg (by decide), if_neg (by decide), if_neg (by decide), if_neg (by decide), if_neg (by decide), if_neg (by decide), if_neg (by decide), if_pos (by decide)]
theorem kk_79 (j : Int) : k_all 79 j = k_P 62 79 j := by
  unfold k_all
  rw [if_neg (by decide), if_neg (by decide), if_neg (by decide), if_neg (by decide), if_neg (by decide), if_neg (by decide), if_neg (by decide), if_pos (by decide)]
theorem kk_80 (j : Int) : k_all 80 j = k_P 62 80 j := by
  unfold k_all
  rw [if_neg (by decide), if_neg (by decide), if_neg (by decide), if_neg (by decide), if_neg (by decide), if_neg (by decide), if_neg (by decide), if_pos (by decide)]
theorem kk_81 (j : Int) : k_all 81 j = k_P 62 81 j := by
  unfold k_all
  rw [if_neg (by decide), if_neg (by decide), if_neg (by decide), if_neg (by decide), if_neg (by decide), if_neg (by decide), if_neg (by decide), if_pos (by decide)]
theorem kk_82 (j : Int) : k_all 82 j = k_P 62 82 j := by
  unfold k_all
  rw [if_neg (by decide), if_neg (by decide), if_neg (by decide), if_neg (by decide), if_neg (by decide), if_neg (by decide), if_neg (by decide), if_pos (by decide)]
theorem kk_83 (j : Int) : k_all 83 j = k_P 62 83 j := by
  unfold k_all
  rw [if_neg (by decide), if_neg (by decide), if_neg (by decide), if_neg (by decide), if_neg (by decide), if_neg (by decide), if_neg (by decide), if_pos (by decide)]
theorem kk_84 (j : Int) : k_all 84 j = k_P 62 84 j := by
  unfold k_all
  rw [if_neg (by decide), if_neg (by decide), if_neg (by decide), if_neg (by decide), if_neg (by decide), if_neg (by decide), if_neg (by decide), if_pos (by decide)]
theorem kk_85 (j : Int) : k_all 85 j = k_M 85 j := by
  unfold k_all
  rw [if_neg (by decide), if_neg (by decide), if_neg (by decide), if_neg (by decide), if_neg (by decide), if_neg (by decide), if_neg (by decide), if_neg (by decide)]
theorem kk_86 (j : Int) : k_all 86 j = k_M 86 j := by
  unfold k_all
  rw [if_neg (by decide), if_neg (by decide), if_neg (by decide), if_neg (by decide), if_neg (by decide), if_neg (by decide), if_neg (by decide), if_neg (by decide)]
theorem kk_87 (j : Int) : k_all 87 j = k_M 87 j := by
  unfold k_all
  rw [if_neg (by decide), if_neg (by decide), if_neg (by decide), if_neg (by decide), if_neg (by decide), if_neg (by decide), if_neg (by decide), if_neg (by decide)]
theorem kk_88 (j : Int) : k_all 88 j = k_M 88 j := by
  unfold k_all
  rw [if_neg (by decide), if_neg (by decide), if_neg (by decide), if_neg (by decide), if_neg (by decide), if_neg (by decide), if_neg (by decide), if_neg (by decide)]
theorem kk_89 (j : Int) : k_all 89 j = k_M 89 j := by
  unfold k_all
  rw [if_neg (by decide), if_neg (by decide), if_neg (by decide), if_neg (by decide), if_neg (by decide), if_neg (by decide), if_neg (by decide), if_neg (by decide)]
theorem kk_90 (j : Int) : k_all 90 j = k_M 90 j := by
  unfold k_all
  rw [if_neg (by decide), if_neg (by decide), if_neg (by decide), if_neg (by decide), if_neg (by decide), if_neg (by decide), if_neg (by decide), if_neg (by decide)]
theorem kk_91 (j : Int) : k_all 91 j = k_M 91 j := by
  unfold k_all
  rw [if_neg (by decide), if_neg (by decide), if_neg (by decide), if_neg (by decide), if_neg (by decide), if_neg (by decide), if_neg (by decide), if_neg (by decide)]
theorem kk_92 (j : Int) : k_all 92 j = k_M 92 j := by
  unfold k_all
  rw [if_neg (by decide), if_neg (by decide), if_neg (by decide), if_neg (by decide), if_neg (by decide), if_neg (by decide), if_neg (by decide), if_neg (by decide)]
theorem kk_93 (j : Int) : k_all 93 j = k_M 93 j := by
  unfold k_all
  rw [if_neg (by decide), if_neg (by decide), if_neg (by decide), if_neg (by decide), if_neg (by decide), if_neg (by decide), if_neg (by decide), if_neg (by decide)]
theorem kk_94 (j : Int) : k_all 94 j = k_M 94 j := by
  unfold k_all
  rw [if_neg (by decide), if_neg (by decide), if_neg (by decide), if_neg (by decide), if_neg (by decide), if_neg (by decide), if_neg (by decide), if_neg (by decide)]
theorem kk_95 (j : Int) : k_all 95 j = k_M 95 j := by
  unfold k_all
  rw [if_neg (by decide), if_neg (by decide), if_neg (by decide), if_neg (by decide), if_neg (by decide), if_neg (by decide), if_neg (by decide), if_neg (by decide)]
theorem kk_96 (j : Int) : k_all 96 j = k_M 96 j := by
  unfold k_all
  rw [if_neg (by decide), if_neg (by decide), if_neg (by decide), if_neg (by decide), if_neg (by decide), if_neg (by decide), if_neg (by decide), if_neg (by decide)]
theorem kk_97 (j : Int) : k_all 97 j = k_M 97 j := by
  unfold k_all
  rw [if_neg (by decide), if_neg (by decide), if_neg (by decide), if_neg (by decide), if_neg (by decide), if_neg (by decide), if_neg (by decide), if_neg (by decide)]
theorem kk_98 (j : Int) : k_all 98 j = k_M 98 j := by
  unfold k_all
  rw [if_neg (by decide), if_neg (by decide), if_neg (by decide), if_neg (by decide), if_neg (by decide), if_neg (by decide), if_neg (by decide), if_neg (by decide)]
theorem kk_99 (j : Int) : k_all 99 j = k_M 99 j := by
  unfold k_all
  rw [if_neg (by decide), if_neg (by decide), if_neg (by decide), if_neg (by decide), if_neg (by decide), if_neg (by decide), if_neg (by decide), if_neg (by decide)]
theorem kk_100 (j : Int) : k_all 100 j = k_M 100 j := by
  unfold k_all
  rw [if_neg (by decide), if_neg (by decide), if_neg (by decide), if_neg (by decide), if_neg (by decide), if_neg (by decide), if_neg (by decide), if_neg (by decide)]
theorem kk_101 (j : Int) : k_all 101 j = k_M 101 j := by
  unfold k_all
  rw [if_neg (by decide), if_neg (by decide), if_neg (by decide), if_neg (by decide), if_neg (by decide), if_neg (by decide), if_neg (by decide), if_neg (by decide)]
theorem kk_102 (j : Int) : k_all 102 j = k_M 102 j := by
  unfold k_all
  rw [if_neg (by decide), if_neg (by decide), if_neg (by decide), if_neg (by decide), if_neg (by decide), if_neg (by decide), if_neg (by decide), if_neg (by decide)]
theorem kk_103 (j : Int) : k_all 103 j = k_M 103 j := by
  unfold k_all
  rw [if_neg (by decide), if_neg (by decide), if_neg (by decide), if_neg (by decide), if_neg (by decide), if_neg (by decide), if_neg (by decide), if_neg (by decide)]
theorem kk_104 (j : Int) : k_all 104 j = k_M 104 j := by
  unfold k_all
  rw [if_neg (by decide), if_neg (by decide), if_neg (by decide), if_neg (by decide), if_neg (by decide), if_neg (by decide), if_neg (by decide), if_neg (by decide)]
theorem kk_105 (j : Int) : k_all 105 j = k_M 105 j := by
  unfold k_all
  rw [if_neg (by decide), if_neg (by decide), if_neg (by decide), if_neg (by decide), if_neg (by decide), if_neg (by decide), if_neg (by decide), if_neg (by decide)]
theorem kk_15 : k_all 15 1 = 62 := by decide +kernel
theorem kk_0_5 : k_all 0 5 = 39 := by decide +kernel
theorem kk_0_6 : k_all 0 6 = 62 := by decide +kernel
theorem kk_0_7 : k_all 0 7 = -1 := by decide +kernel
theorem kk_0_8 : k_all 0 8 = 0 := by decide +kernel
theorem kk_20_5 : k_W 20 5 = 39 := by decide +kernel
theorem kk_20_6 : k_W 20 6 = 0 := by decide +kernel
theorem k0_22 (j : Int) : k_W 22 j = 0 := by simp [k_W, q_rows, q_fill, k_V]
theorem k0_35_0 : k_W 35 0 = 0 := by decide +kernel
theorem k0_35_1 : k_W 35 1 = 0 := by decide +kernel
theorem k0_35_2 : k_W 35 2 = 0 := by decide +kernel
theorem k0_35_3 : k_W 35 3 = 0 := by decide +kernel
theorem k0_36 (j : Int) : k_W 36 j = k_V 36 j := by simp [k_W, q_rows, q_fill]
theorem k0_37 (j : Int) : k_W 37 j = 0 := by simp [k_W, q_rows, q_fill, k_V]
theorem k0_38 (j : Int) : k_W 38 j = 0 := by simp [k_W, q_rows, q_fill, k_V]
theorem k0_42_1 : k_P 39 42 1 = 0 := by decide +kernel
theorem k0_42_2 : k_P 39 42 2 = 0 := by decide +kernel
theorem k0_42_3 : k_P 39 42 3 = 0 := by decide +kernel
theorem k0_42_4 : k_P 39 42 4 = 0 := by decide +kernel
theorem k0_43_1 : k_P 39 43 1 = 0 := by decide +kernel
theorem k0_43_2 : k_P 39 43 2 = 0 := by decide +kernel
theorem k0_43_3 : k_P 39 43 3 = 0 := by decide +kernel
theorem k0_43_4 : k_P 39 43 4 = 0 := by decide +kernel
theorem k0_44_1 : k_P 39 44 1 = 0 := by decide +kernel
theorem k0_44_2 : k_P 39 44 2 = 0 := by decide +kernel
theorem k0_44_3 : k_P 39 44 3 = 0 := by decide +kernel
theorem k0_44_4 : k_P 39 44 4 = 0 := by decide +kernel
theorem k0_45_1 : k_P 39 45 1 = 0 := by decide +kernel
theorem k0_45_2 : k_P 39 45 2 = 0 := by decide +kernel
theorem k0_45_3 : k_P 39 45 3 = 0 := by decide +kernel
theorem k0_45_4 : k_P 39 45 4 = 0 := by decide +kernel
theorem k0_46_1 : k_P 39 46 1 = 0 := by decide +kernel
theorem k0_46_2 : k_P 39 46 2 = 0 := by decide +kernel
theorem k0_46_3 : k_P 39 46 3 = 0 := by decide +kernel
theorem k0_46_4 : k_P 39 46 4 = 0 := by decide +kernel
theorem k0_47_1 : k_P 39 47 1 = 0 := by decide +kernel
theorem k0_47_2 : k_P 39 47 2 = 0 := by decide +kernel
theorem k0_47_3 : k_P 39 47 3 = 0 := by decide +kernel
theorem k0_47_4 : k_P 39 47 4 = 0 := by decide +kernel
theorem k0_48_1 : k_P 39 48 1 = 0 := by decide +kernel
theorem k0_48_2 : k_P 39 48 2 = 0 := by decide +kernel
theorem k0_48_3 : k_P 39 48 3 = 0 := by decide +kernel
theorem k0_48_4 : k_P 39 48 4 = 0 := by decide +kernel
theorem k0_49_1 : k_P 39 49 1 = 0 := by decide +kernel
theorem k0_49_2 : k_P 39 49 2 = 0 := by decide +kernel
theorem k0_49_3 : k_P 39 49 3 = 0 := by decide +kernel
theorem k0_49_4 : k_P 39 49 4 = 0 := by decide +kernel
theorem k0_50_1 : k_P 39 50 1 = 0 := by decide +kernel
theorem k0_50_2 : k_P 39 50 2 = 0 := by decide +kernel
theorem k0_50_3 : k_P 39 50 3 = 0 := by decide +kernel
theorem k0_50_4 : k_P 39 50 4 = 0 := by decide +kernel
theorem k0_51_1 : k_P 39 51 1 = 0 := by decide +kernel
theorem k0_51_2 : k_P 39 51 2 = 0 := by decide +kernel
theorem k0_51_3 : k_P 39 51 3 = 0 := by decide +kernel
theorem k0_51_4 : k_P 39 51 4 = 0 := by decide +kernel
theorem k0_52 (j : Int) : k_P 39 52 j = 0 := by simp [k_P, q_fill, q_up, k_0]
theorem k0_53 (j : Int) : k_P 39 53 j = 0 := by simp [k_P, q_fill, q_up, k_0]
theorem k0_54 (j : Int) : k_P 39 54 j = 0 := by simp [k_P, q_fill, q_up, k_0]
theorem k0_55 (j : Int) : k_P 39 55 j = 0 := by simp [k_P, q_fill, q_up, k_0]
theorem k0_56 (j : Int) : k_P 39 56 j = 0 := by simp [k_P, q_fill, q_up, k_0]
theorem k0_57 (j : Int) : k_P 39 57 j = 0 := by simp [k_P, q_fill, q_up, k_0]
theorem k0_58 (j : Int) : k_P 39 58 j = 0 := by simp [k_P, q_fill, q_up, k_0]
theorem k0_59 (j : Int) : k_P 39 59 j = 0 := by simp [k_P, q_fill, q_up, k_0]
theorem k0_60 (j : Int) : k_P 39 60 j = 0 := by simp [k_P, q_fill, q_up, k_0]
theorem k0_61 (j : Int) : k_P 39 61 j = 0 := by simp [k_P, q_fill, q_up, k_0]
theorem k0_65_1 : k_P 62 65 1 = 0 := by decide +kernel
theorem k0_65_2 : k_P 62 65 2 = 0 := by decide +kernel
theorem k0_65_3 : k_P 62 65 3 = 0 := by decide +kernel
theorem k0_65_4 : k_P 62 65 4 = 0 := by decide +kernel
theorem k0_66_1 : k_P 62 66 1 = 0 := by decide +kernel
theorem k0_66_2 : k_P 62 66 2 = 0 := by decide +kernel
theorem k0_66_3 : k_P 62 66 3 = 0 := by decide +kernel
theorem k0_66_4 : k_P 62 66 4 = 0 := by decide +kernel
theorem k0_67_1 : k_P 62 67 1 = 0 := by decide +kernel
theorem k0_67_2 : k_P 62 67 2 = 0 := by decide +kernel
theorem k0_67_3 : k_P 62 67 3 = 0 := by decide +kernel
theorem k0_67_4 : k_P 62 67 4 = 0 := by decide +kernel
theorem k0_68_1 : k_P 62 68 1 = 0 := by decide +kernel
theorem k0_68_2 : k_P 62 68 2 = 0 := by decide +kernel
theorem k0_68_3 : k_P 62 68 3 = 0 := by decide +kernel
theorem k0_68_4 : k_P 62 68 4 = 0 := by decide +kernel
theorem k0_69_1 : k_P 62 69 1 = 0 := by decide +kernel
theorem k0_69_2 : k_P 62 69 2 = 0 := by decide +kernel
theorem k0_69_3 : k_P 62 69 3 = 0 := by decide +kernel
theorem k0_69_4 : k_P 62 69 4 = 0 := by decide +kernel
theorem k0_70_1 : k_P 62 70 1 = 0 := by decide +kernel
theorem k0_70_2 : k_P 62 70 2 = 0 := by decide +kernel
theorem k0_70_3 : k_P 62 70 3 = 0 := by decide +kernel
theorem k0_70_4 : k_P 62 70 4 = 0 := by decide +kernel
theorem k0_71_1 : k_P 62 71 1 = 0 := by decide +kernel
theorem k0_71_2 : k_P 62 71 2 = 0 := by decide +kernel
theorem k0_71_3 : k_P 62 71 3 = 0 := by decide +kernel
theorem k0_71_4 : k_P 62 71 4 = 0 := by decide +kernel
theorem k0_72_1 : k_P 62 72 1 = 0 := by decide +kernel
theorem k0_72_2 : k_P 62 72 2 = 0 := by decide +kernel
theorem k0_72_3 : k_P 62 72 3 = 0 := by decide +kernel
theorem k0_72_4 : k_P 62 72 4 = 0 := by decide +kernel
theorem k0_73_1 : k_P 62 73 1 = 0 := by decide +kernel
theorem k0_73_2 : k_P 62 73 2 = 0 := by decide +kernel
theorem k0_73_3 : k_P 62 73 3 = 0 := by decide +kernel
theorem k0_73_4 : k_P 62 73 4 = 0 := by decide +kernel
theorem k0_74_1 : k_P 62 74 1 = 0 := by decide +kernel
theorem k0_74_2 : k_P 62 74 2 = 0 := by decide +kernel
theorem k0_74_3 : k_P 62 74 3 = 0 := by decide +kernel
theorem k0_74_4 : k_P 62 74 4 = 0 := by decide +kernel
theorem k0_75 (j : Int) : k_P 62 75 j = 0 := by simp [k_P, q_fill, q_up, k_0]
theorem k0_76 (j : Int) : k_P 62 76 j = 0 := by simp [k_P, q_fill, q_up, k_0]
theorem k0_77 (j : Int) : k_P 62 77 j = 0 := by simp [k_P, q_fill, q_up, k_0]
theorem k0_78 (j : Int) : k_P 62 78 j = 0 := by simp [k_P, q_fill, q_up, k_0]
theorem k0_79 (j : Int) : k_P 62 79 j = 0 := by simp [k_P, q_fill, q_up, k_0]
theorem k0_80 (j : Int) : k_P 62 80 j = 0 := by simp [k_P, q_fill, q_up, k_0]
theorem k0_81 (j : Int) : k_P 62 81 j = 0 := by simp [k_P, q_fill, q_up, k_0]
theorem k0_82 (j : Int) : k_P 62 82 j = 0 := by simp [k_P, q_fill, q_up, k_0]
theorem k0_83 (j : Int) : k_P 62 83 j = 0 := by simp [k_P, q_fill, q_up, k_0]
theorem k0_84 (j : Int) : k_P 62 84 j = 0 := by simp [k_P, q_fill, q_up, k_0]
theorem k0_85_18 : k_M 85 18 = 0 := by decide +kernel
theorem k0_85_19 : k_M 85 19 = 0 := by decide +kernel
theorem k0_85_20 : k_M 85 20 = 0 := by decide +kernel
theorem k0_85_35 : k_M 85 35 = 0 := by decide +kernel
theorem k0_85_37 : k_M 85 37 = 0 := by decide +kernel
theorem k0_87 (j : Int) : k_M 87 j = 0 := by simp [k_M, q_fill, k_N]
theorem k0_89 (j : Int) : k_M 89 j = 0 := by simp [k_M, q_fill, k_N]
theorem k0_90 (j : Int) : k_M 90 j = 0 := by simp [k_M, q_fill, k_N]
theorem k0_91 (j : Int) : k_M 91 j = 0 := by simp [k_M, q_fill, k_N]
theorem k0_92 (j : Int) : k_M 92 j = 0 := by simp [k_M, q_fill, k_N]
theorem k0_93 (j : Int) : k_M 93 j = 0 := by simp [k_M, q_fill, k_N]
theorem k0_95 (j : Int) : k_M 95 j = 0 := by simp [k_M, q_fill, k_N]
theorem k0_96 (j : Int) : k_M 96 j = 0 := by simp [k_M, q_fill, k_N]
theorem k0_97 (j : Int) : k_M 97 j = 0 := by simp [k_M, q_fill, k_N]
theorem k0_98 (j : Int) : k_M 98 j = 0 := by simp [k_M, q_fill, k_N]
theorem k0_99 (j : Int) : k_M 99 j = 0 := by simp [k_M, q_fill, k_N]
theorem k0_100 (j : Int) : k_M 100 j = 0 := by simp [k_M, q_fill, k_N]
theorem k0_101 (j : Int) : k_M 101 j = 0 := by simp [k_M, q_fill, k_N]
theorem k0_102 (j : Int) : k_M 102 j = 0 := by simp [k_M, q_fill, k_N]
theorem k0_103 (j : Int) : k_M 103 j = 0 := by simp [k_M, q_fill, k_N]
theorem k0_105 (j : Int) : k_M 105 j = 0 := by simp [k_M, q_fill, k_N]
theorem rf_39 {ad : Int → Nat} : va_rf (q_rf ad 39) = .ref (ad 39) := rfl
theorem rf_62 {ad : Int → Nat} : va_rf (q_rf ad 62) = .ref (ad 62) := rfl
theorem pe_0 {x y : Nat} {a : Nat → Nat} {f : Nat → Nat → Nat} {g tk tv : Nat → Nat} {tf : Nat} {cy : Nat → ClassId} : q_ent (l_ad x y a f g tk tv tf) cy k_all 0 (q_T 0) = (.inr (10, [.ref (a 0), .ref (a 1), .ref (a 2), .ref (a 5), .ref (a 6), .ref (a 3), .ref (a 4), .int (-1), .int 0]) : va_E) := by
  simp only [en_0, la_1, la_2, la_13, la_15, la_20, kk_0_5, kk_0_6, kk_0_7, kk_0_8, la_39, la_62, ez_i, ez_m, rf_39, rf_62]
theorem pe_1 {x y : Nat} {a : Nat → Nat} {f : Nat → Nat → Nat} {g tk tv : Nat → Nat} {tf : Nat} {cy : Nat → ClassId} : q_ent (l_ad x y a f g tk tv tf) cy k_all 1 (q_T 1) = (.inr (0, [.int (Int32.ofInt (k_G 1 0)), .int (Int32.ofInt (k_G 1 1)), .int (Int32.ofInt (k_G 1 2))]) : va_E) := by
  simp only [en_1, kk_1, ez_i, ez_l]
theorem pe_2 {x y : Nat} {a : Nat → Nat} {f : Nat → Nat → Nat} {g tk tv : Nat → Nat} {tf : Nat} {cy : Nat → ClassId} : q_ent (l_ad x y a f g tk tv tf) cy k_all 2 (q_T 2) = (.inr (5, [.ref (f 1 0), .ref (f 1 5), .ref (f 1 9)]) : va_E) := by
  simp only [en_2, la_3, la_8, la_12]
theorem pe_3 {x y : Nat} {a : Nat → Nat} {f : Nat → Nat → Nat} {g tk tv : Nat → Nat} {tf : Nat} {cy : Nat → ClassId} : q_ent (l_ad x y a f g tk tv tf) cy k_all 3 (q_T 3) = (.inl (cy 5, 4, .inr (.inr (.inr (.inr (fun j => q_rf (l_ad x y a f g tk tv tf) (4 + (j : Int))))))) : va_E) := by
  simp only [en_3]
theorem pe_4 {x y : Nat} {a : Nat → Nat} {f : Nat → Nat → Nat} {g tk tv : Nat → Nat} {tf : Nat} {cy : Nat → ClassId} : q_ent (l_ad x y a f g tk tv tf) cy k_all 4 (q_T 4) = (.inl (cy 0, 196, .inl (fun j => Int32.ofInt (k_S 4 j))) : va_E) := by
  simp only [en_4, kk_4]
theorem pe_5 {x y : Nat} {a : Nat → Nat} {f : Nat → Nat → Nat} {g tk tv : Nat → Nat} {tf : Nat} {cy : Nat → ClassId} : q_ent (l_ad x y a f g tk tv tf) cy k_all 5 (q_T 5) = (.inl (cy 0, 196, .inl (fun j => Int32.ofInt (k_S 5 j))) : va_E) := by
  simp only [en_5, kk_5]
theorem pe_6 {x y : Nat} {a : Nat → Nat} {f : Nat → Nat → Nat} {g tk tv : Nat → Nat} {tf : Nat} {cy : Nat → ClassId} : q_ent (l_ad x y a f g tk tv tf) cy k_all 6 (q_T 6) = (.inl (cy 0, 196, .inl (fun j => Int32.ofInt (k_S 6 j))) : va_E) := by
  simp only [en_6, kk_6]
theorem pe_7 {x y : Nat} {a : Nat → Nat} {f : Nat → Nat → Nat} {g tk tv : Nat → Nat} {tf : Nat} {cy : Nat → ClassId} : q_ent (l_ad x y a f g tk tv tf) cy k_all 7 (q_T 7) = (.inl (cy 0, 196, .inl (fun j => Int32.ofInt (k_S 7 j))) : va_E) := by
  simp only [en_7, kk_7]
theorem pe_8 {x y : Nat} {a : Nat → Nat} {f : Nat → Nat → Nat} {g tk tv : Nat → Nat} {tf : Nat} {cy : Nat → ClassId} : q_ent (l_ad x y a f g tk tv tf) cy k_all 8 (q_T 8) = (.inl (cy 5, 3, .inr (.inr (.inr (.inr (fun j => q_rf (l_ad x y a f g tk tv tf) (9 + (j : Int))))))) : va_E) := by
  simp only [en_8]
theorem pe_9 {x y : Nat} {a : Nat → Nat} {f : Nat → Nat → Nat} {g tk tv : Nat → Nat} {tf : Nat} {cy : Nat → ClassId} : q_ent (l_ad x y a f g tk tv tf) cy k_all 9 (q_T 9) = (.inl (cy 0, 784, .inl (fun j => Int32.ofInt (k_S 9 j))) : va_E) := by
  simp only [en_9, kk_9]
theorem pe_10 {x y : Nat} {a : Nat → Nat} {f : Nat → Nat → Nat} {g tk tv : Nat → Nat} {tf : Nat} {cy : Nat → ClassId} : q_ent (l_ad x y a f g tk tv tf) cy k_all 10 (q_T 10) = (.inl (cy 0, 784, .inl (fun j => Int32.ofInt (k_S 10 j))) : va_E) := by
  simp only [en_10, kk_10]
theorem pe_11 {x y : Nat} {a : Nat → Nat} {f : Nat → Nat → Nat} {g tk tv : Nat → Nat} {tf : Nat} {cy : Nat → ClassId} : q_ent (l_ad x y a f g tk tv tf) cy k_all 11 (q_T 11) = (.inl (cy 0, 784, .inl (fun j => Int32.ofInt (k_S 11 j))) : va_E) := by
  simp only [en_11, kk_11]
theorem pe_12 {x y : Nat} {a : Nat → Nat} {f : Nat → Nat → Nat} {g tk tv : Nat → Nat} {tf : Nat} {cy : Nat → ClassId} : q_ent (l_ad x y a f g tk tv tf) cy k_all 12 (q_T 12) = (.inl (cy 2, 3, .inl (fun j => Int32.ofInt (k_S 12 j))) : va_E) := by
  simp only [en_12, kk_12]
theorem pe_13 {x y : Nat} {a : Nat → Nat} {f : Nat → Nat → Nat} {g tk tv : Nat → Nat} {tf : Nat} {cy : Nat → ClassId} : q_ent (l_ad x y a f g tk tv tf) cy k_all 13 (q_T 13) = (.inr (7, [.ref (f 2 0), .int 0]) : va_E) := by
  simp only [en_13, la_14, kz_13, ez_i]
theorem pe_14 {x y : Nat} {a : Nat → Nat} {f : Nat → Nat → Nat} {g tk tv : Nat → Nat} {tf : Nat} {cy : Nat → ClassId} : q_ent (l_ad x y a f g tk tv tf) cy k_all 14 (q_T 14) = (.inl (cy 3, 300, .inl (fun _ => 0)) : va_E) := by
  simp only [en_14, kz_14, ez_i]
theorem pe_15 {x y : Nat} {a : Nat → Nat} {f : Nat → Nat → Nat} {g tk tv : Nat → Nat} {tf : Nat} {cy : Nat → ClassId} : q_ent (l_ad x y a f g tk tv tf) cy k_all 15 (q_T 15) = (.inr (3, [.ref (f 5 0), .ref (a 4)]) : va_E) := by
  simp only [en_15, la_16, kk_15, la_62, rf_39, rf_62]
theorem pe_16 {x y : Nat} {a : Nat → Nat} {f : Nat → Nat → Nat} {g tk tv : Nat → Nat} {tf : Nat} {cy : Nat → ClassId} : q_ent (l_ad x y a f g tk tv tf) cy k_all 16 (q_T 16) = (.inr (8, [.ref (a 2), .ref (f 5 1), .ref (f 5 2), .ref (f 5 3), .int 0, .int 0]) : va_E) := by
  simp only [en_16, la_13, la_17, la_18, la_19, kz_16, ez_i]
theorem pe_17 {x y : Nat} {a : Nat → Nat} {f : Nat → Nat → Nat} {g tk tv : Nat → Nat} {tf : Nat} {cy : Nat → ClassId} : q_ent (l_ad x y a f g tk tv tf) cy k_all 17 (q_T 17) = (.inl (cy 0, 301, .inl (fun _ => 0)) : va_E) := by
  simp only [en_17, kz_17, ez_i]
theorem pe_18 {x y : Nat} {a : Nat → Nat} {f : Nat → Nat → Nat} {g tk tv : Nat → Nat} {tf : Nat} {cy : Nat → ClassId} : q_ent (l_ad x y a f g tk tv tf) cy k_all 18 (q_T 18) = (.inl (cy 0, 301, .inl (fun _ => 0)) : va_E) := by
  simp only [en_18, kz_18, ez_i]
theorem pe_19 {x y : Nat} {a : Nat → Nat} {f : Nat → Nat → Nat} {g tk tv : Nat → Nat} {tf : Nat} {cy : Nat → ClassId} : q_ent (l_ad x y a f g tk tv tf) cy k_all 19 (q_T 19) = (.inl (cy 0, 301, .inl (fun _ => 0)) : va_E) := by
  simp only [en_19, kz_19, ez_i]
theorem pe_20 {x y : Nat} {a : Nat → Nat} {f : Nat → Nat → Nat} {g tk tv : Nat → Nat} {tf : Nat} {cy : Nat → ClassId} : q_ent (l_ad x y a f g tk tv tf) cy k_all 20 (q_T 20) = (.inr (9, [.ref (a 0), .ref (f 6 13), .ref (f 6 0), .ref (f 6 1), .ref (f 6 2), .ref (a 3), .int 0]) : va_E) := by
  simp only [en_20, la_1, la_34, la_21, la_22, la_23, kk_20, kk_20_5, kk_20_6, la_39, ez_i, rf_39, rf_62]
theorem pe_21 {x y : Nat} {a : Nat → Nat} {f : Nat → Nat → Nat} {g tk tv : Nat → Nat} {tf : Nat} {cy : Nat → ClassId} : q_ent (l_ad x y a f g tk tv tf) cy k_all 21 (q_T 21) = (.inl (cy 0, 10, .inl (fun j => Int32.ofInt (k_W 21 j))) : va_E) := by
  simp only [en_21, kk_21]
theorem pe_22 {x y : Nat} {a : Nat → Nat} {f : Nat → Nat → Nat} {g tk tv : Nat → Nat} {tf : Nat} {cy : Nat → ClassId} : q_ent (l_ad x y a f g tk tv tf) cy k_all 22 (q_T 22) = (.inl (cy 0, 10, .inl (fun _ => 0)) : va_E) := by
  simp only [en_22, kk_22, k0_22, ez_i, ez_l]
theorem pe_23 {x y : Nat} {a : Nat → Nat} {f : Nat → Nat → Nat} {g tk tv : Nat → Nat} {tf : Nat} {cy : Nat → ClassId} : q_ent (l_ad x y a f g tk tv tf) cy k_all 23 (q_T 23) = (.inl (cy 5, 10, .inr (.inr (.inr (.inr (fun j => q_rf (l_ad x y a f g tk tv tf) (24 + (j : Int))))))) : va_E) := by
  simp only [en_23]
theorem pe_24 {x y : Nat} {a : Nat → Nat} {f : Nat → Nat → Nat} {g tk tv : Nat → Nat} {tf : Nat} {cy : Nat → ClassId} : q_ent (l_ad x y a f g tk tv tf) cy k_all 24 (q_T 24) = (.inl (cy 0, 196, .inl (fun j => Int32.ofInt (k_W 24 j))) : va_E) := by
  simp only [en_24, kk_24]
theorem pe_25 {x y : Nat} {a : Nat → Nat} {f : Nat → Nat → Nat} {g tk tv : Nat → Nat} {tf : Nat} {cy : Nat → ClassId} : q_ent (l_ad x y a f g tk tv tf) cy k_all 25 (q_T 25) = (.inl (cy 0, 196, .inl (fun j => Int32.ofInt (k_W 25 j))) : va_E) := by
  simp only [en_25, kk_25]
theorem pe_26 {x y : Nat} {a : Nat → Nat} {f : Nat → Nat → Nat} {g tk tv : Nat → Nat} {tf : Nat} {cy : Nat → ClassId} : q_ent (l_ad x y a f g tk tv tf) cy k_all 26 (q_T 26) = (.inl (cy 0, 196, .inl (fun j => Int32.ofInt (k_W 26 j))) : va_E) := by
  simp only [en_26, kk_26]
theorem pe_27 {x y : Nat} {a : Nat → Nat} {f : Nat → Nat → Nat} {g tk tv : Nat → Nat} {tf : Nat} {cy : Nat → ClassId} : q_ent (l_ad x y a f g tk tv tf) cy k_all 27 (q_T 27) = (.inl (cy 0, 196, .inl (fun j => Int32.ofInt (k_W 27 j))) : va_E) := by
  simp only [en_27, kk_27]
theorem pe_28 {x y : Nat} {a : Nat → Nat} {f : Nat → Nat → Nat} {g tk tv : Nat → Nat} {tf : Nat} {cy : Nat → ClassId} : q_ent (l_ad x y a f g tk tv tf) cy k_all 28 (q_T 28) = (.inl (cy 0, 196, .inl (fun j => Int32.ofInt (k_W 28 j))) : va_E) := by
  simp only [en_28, kk_28]
theorem pe_29 {x y : Nat} {a : Nat → Nat} {f : Nat → Nat → Nat} {g tk tv : Nat → Nat} {tf : Nat} {cy : Nat → ClassId} : q_ent (l_ad x y a f g tk tv tf) cy k_all 29 (q_T 29) = (.inl (cy 0, 196, .inl (fun j => Int32.ofInt (k_W 29 j))) : va_E) := by
  simp only [en_29, kk_29]
theorem pe_30 {x y : Nat} {a : Nat → Nat} {f : Nat → Nat → Nat} {g tk tv : Nat → Nat} {tf : Nat} {cy : Nat → ClassId} : q_ent (l_ad x y a f g tk tv tf) cy k_all 30 (q_T 30) = (.inl (cy 0, 196, .inl (fun j => Int32.ofInt (k_W 30 j))) : va_E) := by
  simp only [en_30, kk_30]
theorem pe_31 {x y : Nat} {a : Nat → Nat} {f : Nat → Nat → Nat} {g tk tv : Nat → Nat} {tf : Nat} {cy : Nat → ClassId} : q_ent (l_ad x y a f g tk tv tf) cy k_all 31 (q_T 31) = (.inl (cy 0, 196, .inl (fun j => Int32.ofInt (k_W 31 j))) : va_E) := by
  simp only [en_31, kk_31]
theorem pe_32 {x y : Nat} {a : Nat → Nat} {f : Nat → Nat → Nat} {g tk tv : Nat → Nat} {tf : Nat} {cy : Nat → ClassId} : q_ent (l_ad x y a f g tk tv tf) cy k_all 32 (q_T 32) = (.inl (cy 0, 196, .inl (fun j => Int32.ofInt (k_W 32 j))) : va_E) := by
  simp only [en_32, kk_32]
theorem pe_33 {x y : Nat} {a : Nat → Nat} {f : Nat → Nat → Nat} {g tk tv : Nat → Nat} {tf : Nat} {cy : Nat → ClassId} : q_ent (l_ad x y a f g tk tv tf) cy k_all 33 (q_T 33) = (.inl (cy 0, 196, .inl (fun j => Int32.ofInt (k_W 33 j))) : va_E) := by
  simp only [en_33, kk_33]
theorem pe_34 {x y : Nat} {a : Nat → Nat} {f : Nat → Nat → Nat} {g tk tv : Nat → Nat} {tf : Nat} {cy : Nat → ClassId} : q_ent (l_ad x y a f g tk tv tf) cy k_all 34 (q_T 34) = (.inr (1, [.ref (a 0), .ref (a 1), .ref (f 6 2), .ref (f 6 14), .ref (f 6 15), .ref (f 6 16), .ref (f 6 17)]) : va_E) := by
  simp only [en_34, la_1, la_2, la_23, la_35, la_36, la_37, la_38]
theorem pe_35 {x y : Nat} {a : Nat → Nat} {f : Nat → Nat → Nat} {g tk tv : Nat → Nat} {tf : Nat} {cy : Nat → ClassId} : q_ent (l_ad x y a f g tk tv tf) cy k_all 35 (q_T 35) = (.inr (6, [.long 0, .int 0, .int 0, .int 0]) : va_E) := by
  simp only [en_35, kk_35, k0_35_0, k0_35_1, k0_35_2, k0_35_3, ez_i, ez_l]
theorem pe_36 {x y : Nat} {a : Nat → Nat} {f : Nat → Nat → Nat} {g tk tv : Nat → Nat} {tf : Nat} {cy : Nat → ClassId} : q_ent (l_ad x y a f g tk tv tf) cy k_all 36 (q_T 36) = (.inl (cy 0, 4, .inl (fun j => Int32.ofInt (k_V 36 j))) : va_E) := by
  simp only [en_36, kk_36, k0_36]
theorem pe_37 {x y : Nat} {a : Nat → Nat} {f : Nat → Nat → Nat} {g tk tv : Nat → Nat} {tf : Nat} {cy : Nat → ClassId} : q_ent (l_ad x y a f g tk tv tf) cy k_all 37 (q_T 37) = (.inl (cy 0, 196, .inl (fun _ => 0)) : va_E) := by
  simp only [en_37, kk_37, k0_37, ez_i, ez_l]
theorem pe_38 {x y : Nat} {a : Nat → Nat} {f : Nat → Nat → Nat} {g tk tv : Nat → Nat} {tf : Nat} {cy : Nat → ClassId} : q_ent (l_ad x y a f g tk tv tf) cy k_all 38 (q_T 38) = (.inl (cy 2, 196, .inl (fun _ => 0)) : va_E) := by
  simp only [en_38, kk_38, k0_38, ez_i, ez_l]
theorem pe_39 {x y : Nat} {a : Nat → Nat} {f : Nat → Nat → Nat} {g tk tv : Nat → Nat} {tf : Nat} {cy : Nat → ClassId} : q_ent (l_ad x y a f g tk tv tf) cy k_all 39 (q_T 39) = (.inr (2, [.ref (f 3 0), .ref (f 3 1), .int (Int32.ofInt ((k_P 39) 39 2))]) : va_E) := by
  simp only [en_39, la_40, la_41, kk_39, ez_i, ez_l]
theorem pe_40 {x y : Nat} {a : Nat → Nat} {f : Nat → Nat → Nat} {g tk tv : Nat → Nat} {tf : Nat} {cy : Nat → ClassId} : q_ent (l_ad x y a f g tk tv tf) cy k_all 40 (q_T 40) = (.inl (cy 4, 10, .inr (.inr (.inr (.inr (fun j => q_rf (l_ad x y a f g tk tv tf) (42 + (j : Int))))))) : va_E) := by
  simp only [en_40]
theorem pe_41 {x y : Nat} {a : Nat → Nat} {f : Nat → Nat → Nat} {g tk tv : Nat → Nat} {tf : Nat} {cy : Nat → ClassId} : q_ent (l_ad x y a f g tk tv tf) cy k_all 41 (q_T 41) = (.inl (cy 0, 26, .inl (fun j => Int32.ofInt ((k_P 39) 41 j))) : va_E) := by
  simp only [en_41, kk_41]
theorem pe_42 {x y : Nat} {a : Nat → Nat} {f : Nat → Nat → Nat} {g tk tv : Nat → Nat} {tf : Nat} {cy : Nat → ClassId} : q_ent (l_ad x y a f g tk tv tf) cy k_all 42 (q_T 42) = (.inr (4, [.ref (f 3 3), .int 0, .int 0, .int 0, .int 0]) : va_E) := by
  simp only [en_42, la_52, kk_42, k0_42_1, k0_42_2, k0_42_3, k0_42_4, ez_i, ez_l]
theorem pe_43 {x y : Nat} {a : Nat → Nat} {f : Nat → Nat → Nat} {g tk tv : Nat → Nat} {tf : Nat} {cy : Nat → ClassId} : q_ent (l_ad x y a f g tk tv tf) cy k_all 43 (q_T 43) = (.inr (4, [.ref (f 3 5), .int 0, .int 0, .int 0, .int 0]) : va_E) := by
  simp only [en_43, la_53, kk_43, k0_43_1, k0_43_2, k0_43_3, k0_43_4, ez_i, ez_l]
theorem pe_44 {x y : Nat} {a : Nat → Nat} {f : Nat → Nat → Nat} {g tk tv : Nat → Nat} {tf : Nat} {cy : Nat → ClassId} : q_ent (l_ad x y a f g tk tv tf) cy k_all 44 (q_T 44) = (.inr (4, [.ref (f 3 7), .int 0, .int 0, .int 0, .int 0]) : va_E) := by
  simp only [en_44, la_54, kk_44, k0_44_1, k0_44_2, k0_44_3, k0_44_4, ez_i, ez_l]
theorem pe_45 {x y : Nat} {a : Nat → Nat} {f : Nat → Nat → Nat} {g tk tv : Nat → Nat} {tf : Nat} {cy : Nat → ClassId} : q_ent (l_ad x y a f g tk tv tf) cy k_all 45 (q_T 45) = (.inr (4, [.ref (f 3 9), .int 0, .int 0, .int 0, .int 0]) : va_E) := by
  simp only [en_45, la_55, kk_45, k0_45_1, k0_45_2, k0_45_3, k0_45_4, ez_i, ez_l]
theorem pe_46 {x y : Nat} {a : Nat → Nat} {f : Nat → Nat → Nat} {g tk tv : Nat → Nat} {tf : Nat} {cy : Nat → ClassId} : q_ent (l_ad x y a f g tk tv tf) cy k_all 46 (q_T 46) = (.inr (4, [.ref (f 3 11), .int 0, .int 0, .int 0, .int 0]) : va_E) := by
  simp only [en_46, la_56, kk_46, k0_46_1, k0_46_2, k0_46_3, k0_46_4, ez_i, ez_l]
theorem pe_47 {x y : Nat} {a : Nat → Nat} {f : Nat → Nat → Nat} {g tk tv : Nat → Nat} {tf : Nat} {cy : Nat → ClassId} : q_ent (l_ad x y a f g tk tv tf) cy k_all 47 (q_T 47) = (.inr (4, [.ref (f 3 13), .int 0, .int 0, .int 0, .int 0]) : va_E) := by
  simp only [en_47, la_57, kk_47, k0_47_1, k0_47_2, k0_47_3, k0_47_4, ez_i, ez_l]
theorem pe_48 {x y : Nat} {a : Nat → Nat} {f : Nat → Nat → Nat} {g tk tv : Nat → Nat} {tf : Nat} {cy : Nat → ClassId} : q_ent (l_ad x y a f g tk tv tf) cy k_all 48 (q_T 48) = (.inr (4, [.ref (f 3 15), .int 0, .int 0, .int 0, .int 0]) : va_E) := by
  simp only [en_48, la_58, kk_48, k0_48_1, k0_48_2, k0_48_3, k0_48_4, ez_i, ez_l]
theorem pe_49 {x y : Nat} {a : Nat → Nat} {f : Nat → Nat → Nat} {g tk tv : Nat → Nat} {tf : Nat} {cy : Nat → ClassId} : q_ent (l_ad x y a f g tk tv tf) cy k_all 49 (q_T 49) = (.inr (4, [.ref (f 3 17), .int 0, .int 0, .int 0, .int 0]) : va_E) := by
  simp only [en_49, la_59, kk_49, k0_49_1, k0_49_2, k0_49_3, k0_49_4, ez_i, ez_l]
theorem pe_50 {x y : Nat} {a : Nat → Nat} {f : Nat → Nat → Nat} {g tk tv : Nat → Nat} {tf : Nat} {cy : Nat → ClassId} : q_ent (l_ad x y a f g tk tv tf) cy k_all 50 (q_T 50) = (.inr (4, [.ref (f 3 19), .int 0, .int 0, .int 0, .int 0]) : va_E) := by
  simp only [en_50, la_60, kk_50, k0_50_1, k0_50_2, k0_50_3, k0_50_4, ez_i, ez_l]
theorem pe_51 {x y : Nat} {a : Nat → Nat} {f : Nat → Nat → Nat} {g tk tv : Nat → Nat} {tf : Nat} {cy : Nat → ClassId} : q_ent (l_ad x y a f g tk tv tf) cy k_all 51 (q_T 51) = (.inr (4, [.ref (f 3 21), .int 0, .int 0, .int 0, .int 0]) : va_E) := by
  simp only [en_51, la_61, kk_51, k0_51_1, k0_51_2, k0_51_3, k0_51_4, ez_i, ez_l]
theorem pe_52 {x y : Nat} {a : Nat → Nat} {f : Nat → Nat → Nat} {g tk tv : Nat → Nat} {tf : Nat} {cy : Nat → ClassId} : q_ent (l_ad x y a f g tk tv tf) cy k_all 52 (q_T 52) = (.inl (cy 0, 3, .inl (fun _ => 0)) : va_E) := by
  simp only [en_52, kk_52, k0_52, ez_i, ez_l]
theorem pe_53 {x y : Nat} {a : Nat → Nat} {f : Nat → Nat → Nat} {g tk tv : Nat → Nat} {tf : Nat} {cy : Nat → ClassId} : q_ent (l_ad x y a f g tk tv tf) cy k_all 53 (q_T 53) = (.inl (cy 0, 3, .inl (fun _ => 0)) : va_E) := by
  simp only [en_53, kk_53, k0_53, ez_i, ez_l]
theorem pe_54 {x y : Nat} {a : Nat → Nat} {f : Nat → Nat → Nat} {g tk tv : Nat → Nat} {tf : Nat} {cy : Nat → ClassId} : q_ent (l_ad x y a f g tk tv tf) cy k_all 54 (q_T 54) = (.inl (cy 0, 3, .inl (fun _ => 0)) : va_E) := by
  simp only [en_54, kk_54, k0_54, ez_i, ez_l]
theorem pe_55 {x y : Nat} {a : Nat → Nat} {f : Nat → Nat → Nat} {g tk tv : Nat → Nat} {tf : Nat} {cy : Nat → ClassId} : q_ent (l_ad x y a f g tk tv tf) cy k_all 55 (q_T 55) = (.inl (cy 0, 3, .inl (fun _ => 0)) : va_E) := by
  simp only [en_55, kk_55, k0_55, ez_i, ez_l]
theorem pe_56 {x y : Nat} {a : Nat → Nat} {f : Nat → Nat → Nat} {g tk tv : Nat → Nat} {tf : Nat} {cy : Nat → ClassId} : q_ent (l_ad x y a f g tk tv tf) cy k_all 56 (q_T 56) = (.inl (cy 0, 3, .inl (fun _ => 0)) : va_E) := by
  simp only [en_56, kk_56, k0_56, ez_i, ez_l]
theorem pe_57 {x y : Nat} {a : Nat → Nat} {f : Nat → Nat → Nat} {g tk tv : Nat → Nat} {tf : Nat} {cy : Nat → ClassId} : q_ent (l_ad x y a f g tk tv tf) cy k_all 57 (q_T 57) = (.inl (cy 0, 3, .inl (fun _ => 0)) : va_E) := by
  simp only [en_57, kk_57, k0_57, ez_i, ez_l]
theorem pe_58 {x y : Nat} {a : Nat → Nat} {f : Nat → Nat → Nat} {g tk tv : Nat → Nat} {tf : Nat} {cy : Nat → ClassId} : q_ent (l_ad x y a f g tk tv tf) cy k_all 58 (q_T 58) = (.inl (cy 0, 3, .inl (fun _ => 0)) : va_E) := by
  simp only [en_58, kk_58, k0_58, ez_i, ez_l]
theorem pe_59 {x y : Nat} {a : Nat → Nat} {f : Nat → Nat → Nat} {g tk tv : Nat → Nat} {tf : Nat} {cy : Nat → ClassId} : q_ent (l_ad x y a f g tk tv tf) cy k_all 59 (q_T 59) = (.inl (cy 0, 3, .inl (fun _ => 0)) : va_E) := by
  simp only [en_59, kk_59, k0_59, ez_i, ez_l]
theorem pe_60 {x y : Nat} {a : Nat → Nat} {f : Nat → Nat → Nat} {g tk tv : Nat → Nat} {tf : Nat} {cy : Nat → ClassId} : q_ent (l_ad x y a f g tk tv tf) cy k_all 60 (q_T 60) = (.inl (cy 0, 3, .inl (fun _ => 0)) : va_E) := by
  simp only [en_60, kk_60, k0_60, ez_i, ez_l]
theorem pe_61 {x y : Nat} {a : Nat → Nat} {f : Nat → Nat → Nat} {g tk tv : Nat → Nat} {tf : Nat} {cy : Nat → ClassId} : q_ent (l_ad x y a f g tk tv tf) cy k_all 61 (q_T 61) = (.inl (cy 0, 3, .inl (fun _ => 0)) : va_E) := by
  simp only [en_61, kk_61, k0_61, ez_i, ez_l]
theorem pe_62 {x y : Nat} {a : Nat → Nat} {f : Nat → Nat → Nat} {g tk tv : Nat → Nat} {tf : Nat} {cy : Nat → ClassId} : q_ent (l_ad x y a f g tk tv tf) cy k_all 62 (q_T 62) = (.inr (2, [.ref (f 4 0), .ref (f 4 1), .int (Int32.ofInt ((k_P 62) 62 2))]) : va_E) := by
  simp only [en_62, la_63, la_64, kk_62, ez_i, ez_l]
theorem pe_63 {x y : Nat} {a : Nat → Nat} {f : Nat → Nat → Nat} {g tk tv : Nat → Nat} {tf : Nat} {cy : Nat → ClassId} : q_ent (l_ad x y a f g tk tv tf) cy k_all 63 (q_T 63) = (.inl (cy 4, 10, .inr (.inr (.inr (.inr (fun j => q_rf (l_ad x y a f g tk tv tf) (65 + (j : Int))))))) : va_E) := by
  simp only [en_63]
theorem pe_64 {x y : Nat} {a : Nat → Nat} {f : Nat → Nat → Nat} {g tk tv : Nat → Nat} {tf : Nat} {cy : Nat → ClassId} : q_ent (l_ad x y a f g tk tv tf) cy k_all 64 (q_T 64) = (.inl (cy 0, 26, .inl (fun j => Int32.ofInt ((k_P 62) 64 j))) : va_E) := by
  simp only [en_64, kk_64]
theorem pe_65 {x y : Nat} {a : Nat → Nat} {f : Nat → Nat → Nat} {g tk tv : Nat → Nat} {tf : Nat} {cy : Nat → ClassId} : q_ent (l_ad x y a f g tk tv tf) cy k_all 65 (q_T 65) = (.inr (4, [.ref (f 4 3), .int 0, .int 0, .int 0, .int 0]) : va_E) := by
  simp only [en_65, la_75, kk_65, k0_65_1, k0_65_2, k0_65_3, k0_65_4, ez_i, ez_l]
theorem pe_66 {x y : Nat} {a : Nat → Nat} {f : Nat → Nat → Nat} {g tk tv : Nat → Nat} {tf : Nat} {cy : Nat → ClassId} : q_ent (l_ad x y a f g tk tv tf) cy k_all 66 (q_T 66) = (.inr (4, [.ref (f 4 5), .int 0, .int 0, .int 0, .int 0]) : va_E) := by
  simp only [en_66, la_76, kk_66, k0_66_1, k0_66_2, k0_66_3, k0_66_4, ez_i, ez_l]
theorem pe_67 {x y : Nat} {a : Nat → Nat} {f : Nat → Nat → Nat} {g tk tv : Nat → Nat} {tf : Nat} {cy : Nat → ClassId} : q_ent (l_ad x y a f g tk tv tf) cy k_all 67 (q_T 67) = (.inr (4, [.ref (f 4 7), .int 0, .int 0, .int 0, .int 0]) : va_E) := by
  simp only [en_67, la_77, kk_67, k0_67_1, k0_67_2, k0_67_3, k0_67_4, ez_i, ez_l]
theorem pe_68 {x y : Nat} {a : Nat → Nat} {f : Nat → Nat → Nat} {g tk tv : Nat → Nat} {tf : Nat} {cy : Nat → ClassId} : q_ent (l_ad x y a f g tk tv tf) cy k_all 68 (q_T 68) = (.inr (4, [.ref (f 4 9), .int 0, .int 0, .int 0, .int 0]) : va_E) := by
  simp only [en_68, la_78, kk_68, k0_68_1, k0_68_2, k0_68_3, k0_68_4, ez_i, ez_l]
theorem pe_69 {x y : Nat} {a : Nat → Nat} {f : Nat → Nat → Nat} {g tk tv : Nat → Nat} {tf : Nat} {cy : Nat → ClassId} : q_ent (l_ad x y a f g tk tv tf) cy k_all 69 (q_T 69) = (.inr (4, [.ref (f 4 11), .int 0, .int 0, .int 0, .int 0]) : va_E) := by
  simp only [en_69, la_79, kk_69, k0_69_1, k0_69_2, k0_69_3, k0_69_4, ez_i, ez_l]
theorem pe_70 {x y : Nat} {a : Nat → Nat} {f : Nat → Nat → Nat} {g tk tv : Nat → Nat} {tf : Nat} {cy : Nat → ClassId} : q_ent (l_ad x y a f g tk tv tf) cy k_all 70 (q_T 70) = (.inr (4, [.ref (f 4 13), .int 0, .int 0, .int 0, .int 0]) : va_E) := by
  simp only [en_70, la_80, kk_70, k0_70_1, k0_70_2, k0_70_3, k0_70_4, ez_i, ez_l]
theorem pe_71 {x y : Nat} {a : Nat → Nat} {f : Nat → Nat → Nat} {g tk tv : Nat → Nat} {tf : Nat} {cy : Nat → ClassId} : q_ent (l_ad x y a f g tk tv tf) cy k_all 71 (q_T 71) = (.inr (4, [.ref (f 4 15), .int 0, .int 0, .int 0, .int 0]) : va_E) := by
  simp only [en_71, la_81, kk_71, k0_71_1, k0_71_2, k0_71_3, k0_71_4, ez_i, ez_l]
theorem pe_72 {x y : Nat} {a : Nat → Nat} {f : Nat → Nat → Nat} {g tk tv : Nat → Nat} {tf : Nat} {cy : Nat → ClassId} : q_ent (l_ad x y a f g tk tv tf) cy k_all 72 (q_T 72) = (.inr (4, [.ref (f 4 17), .int 0, .int 0, .int 0, .int 0]) : va_E) := by
  simp only [en_72, la_82, kk_72, k0_72_1, k0_72_2, k0_72_3, k0_72_4, ez_i, ez_l]
theorem pe_73 {x y : Nat} {a : Nat → Nat} {f : Nat → Nat → Nat} {g tk tv : Nat → Nat} {tf : Nat} {cy : Nat → ClassId} : q_ent (l_ad x y a f g tk tv tf) cy k_all 73 (q_T 73) = (.inr (4, [.ref (f 4 19), .int 0, .int 0, .int 0, .int 0]) : va_E) := by
  simp only [en_73, la_83, kk_73, k0_73_1, k0_73_2, k0_73_3, k0_73_4, ez_i, ez_l]
theorem pe_74 {x y : Nat} {a : Nat → Nat} {f : Nat → Nat → Nat} {g tk tv : Nat → Nat} {tf : Nat} {cy : Nat → ClassId} : q_ent (l_ad x y a f g tk tv tf) cy k_all 74 (q_T 74) = (.inr (4, [.ref (f 4 21), .int 0, .int 0, .int 0, .int 0]) : va_E) := by
  simp only [en_74, la_84, kk_74, k0_74_1, k0_74_2, k0_74_3, k0_74_4, ez_i, ez_l]
theorem pe_75 {x y : Nat} {a : Nat → Nat} {f : Nat → Nat → Nat} {g tk tv : Nat → Nat} {tf : Nat} {cy : Nat → ClassId} : q_ent (l_ad x y a f g tk tv tf) cy k_all 75 (q_T 75) = (.inl (cy 0, 3, .inl (fun _ => 0)) : va_E) := by
  simp only [en_75, kk_75, k0_75, ez_i, ez_l]
theorem pe_76 {x y : Nat} {a : Nat → Nat} {f : Nat → Nat → Nat} {g tk tv : Nat → Nat} {tf : Nat} {cy : Nat → ClassId} : q_ent (l_ad x y a f g tk tv tf) cy k_all 76 (q_T 76) = (.inl (cy 0, 3, .inl (fun _ => 0)) : va_E) := by
  simp only [en_76, kk_76, k0_76, ez_i, ez_l]
theorem pe_77 {x y : Nat} {a : Nat → Nat} {f : Nat → Nat → Nat} {g tk tv : Nat → Nat} {tf : Nat} {cy : Nat → ClassId} : q_ent (l_ad x y a f g tk tv tf) cy k_all 77 (q_T 77) = (.inl (cy 0, 3, .inl (fun _ => 0)) : va_E) := by
  simp only [en_77, kk_77, k0_77, ez_i, ez_l]
theorem pe_78 {x y : Nat} {a : Nat → Nat} {f : Nat → Nat → Nat} {g tk tv : Nat → Nat} {tf : Nat} {cy : Nat → ClassId} : q_ent (l_ad x y a f g tk tv tf) cy k_all 78 (q_T 78) = (.inl (cy 0, 3, .inl (fun _ => 0)) : va_E) := by
  simp only [en_78, kk_78, k0_78, ez_i, ez_l]
theorem pe_79 {x y : Nat} {a : Nat → Nat} {f : Nat → Nat → Nat} {g tk tv : Nat → Nat} {tf : Nat} {cy : Nat → ClassId} : q_ent (l_ad x y a f g tk tv tf) cy k_all 79 (q_T 79) = (.inl (cy 0, 3, .inl (fun _ => 0)) : va_E) := by
  simp only [en_79, kk_79, k0_79, ez_i, ez_l]
theorem pe_80 {x y : Nat} {a : Nat → Nat} {f : Nat → Nat → Nat} {g tk tv : Nat → Nat} {tf : Nat} {cy : Nat → ClassId} : q_ent (l_ad x y a f g tk tv tf) cy k_all 80 (q_T 80) = (.inl (cy 0, 3, .inl (fun _ => 0)) : va_E) := by
  simp only [en_80, kk_80, k0_80, ez_i, ez_l]
theorem pe_81 {x y : Nat} {a : Nat → Nat} {f : Nat → Nat → Nat} {g tk tv : Nat → Nat} {tf : Nat} {cy : Nat → ClassId} : q_ent (l_ad x y a f g tk tv tf) cy k_all 81 (q_T 81) = (.inl (cy 0, 3, .inl (fun _ => 0)) : va_E) := by
  simp only [en_81, kk_81, k0_81, ez_i, ez_l]
theorem pe_82 {x y : Nat} {a : Nat → Nat} {f : Nat → Nat → Nat} {g tk tv : Nat → Nat} {tf : Nat} {cy : Nat → ClassId} : q_ent (l_ad x y a f g tk tv tf) cy k_all 82 (q_T 82) = (.inl (cy 0, 3, .inl (fun _ => 0)) : va_E) := by
  simp only [en_82, kk_82, k0_82, ez_i, ez_l]
theorem pe_83 {x y : Nat} {a : Nat → Nat} {f : Nat → Nat → Nat} {g tk tv : Nat → Nat} {tf : Nat} {cy : Nat → ClassId} : q_ent (l_ad x y a f g tk tv tf) cy k_all 83 (q_T 83) = (.inl (cy 0, 3, .inl (fun _ => 0)) : va_E) := by
  simp only [en_83, kk_83, k0_83, ez_i, ez_l]
theorem pe_84 {x y : Nat} {a : Nat → Nat} {f : Nat → Nat → Nat} {g tk tv : Nat → Nat} {tf : Nat} {cy : Nat → ClassId} : q_ent (l_ad x y a f g tk tv tf) cy k_all 84 (q_T 84) = (.inl (cy 0, 3, .inl (fun _ => 0)) : va_E) := by
  simp only [en_84, kk_84, k0_84, ez_i, ez_l]
theorem pe_85 {x y : Nat} {a : Nat → Nat} {f : Nat → Nat → Nat} {g tk tv : Nat → Nat} {tf : Nat} {cy : Nat → ClassId} : q_ent (l_ad x y a f g tk tv tf) cy k_all 85 (q_T 85) = (.inr (11, [.int (Int32.ofInt (k_M 85 0)), .int (Int32.ofInt (k_M 85 1)), .int (Int32.ofInt (k_M 85 2)), .int (Int32.ofInt (k_M 85 3)), .ref (g 0), .ref (g 1), .ref (g 2), .int (Int32.ofInt (k_M 85 7)), .ref (g 3), .ref (g 4), .ref (g 5), .ref (g 6), .ref (g 7), .ref (g 8), .int (Int32.ofInt (k_M 85 14)), .ref (g 9), .ref (g 10), .int (Int32.ofInt (k_M 85 17)), .long 0, .long 0, .long 0, .ref (g 11), .ref (g 12), .int (Int32.ofInt (k_M 85 23)), .ref (g 13), .ref (g 14), .ref (g 15), .ref (g 16), .ref (g 17), .ref (g 18), .ref (g 19), .int (Int32.ofInt (k_M 85 31)), .int (Int32.ofInt (k_M 85 32)), .int (Int32.ofInt (k_M 85 33)), .int (Int32.ofInt (k_M 85 34)), .long 0, .int (Int32.ofInt (k_M 85 36)), .int 0]) : va_E) := by
  simp only [en_85, la_86, la_87, la_88, la_89, la_90, la_91, la_92, la_93, la_94, la_95, la_96, la_97, la_98, la_99, la_100, la_101, la_102, la_103, la_104, la_105, kk_85, k0_85_18, k0_85_19, k0_85_20, k0_85_35, k0_85_37, ez_i, ez_l]
theorem pe_86 {x y : Nat} {a : Nat → Nat} {f : Nat → Nat → Nat} {g tk tv : Nat → Nat} {tf : Nat} {cy : Nat → ClassId} : q_ent (l_ad x y a f g tk tv tf) cy k_all 86 (q_T 86) = (.inl (cy 0, 576, .inl (fun j => Int32.ofInt (k_M 86 j))) : va_E) := by
  simp only [en_86, kk_86]
theorem pe_87 {x y : Nat} {a : Nat → Nat} {f : Nat → Nat → Nat} {g tk tv : Nat → Nat} {tf : Nat} {cy : Nat → ClassId} : q_ent (l_ad x y a f g tk tv tf) cy k_all 87 (q_T 87) = (.inl (cy 0, 1728, .inl (fun _ => 0)) : va_E) := by
  simp only [en_87, kk_87, k0_87, ez_i, ez_l]
theorem pe_88 {x y : Nat} {a : Nat → Nat} {f : Nat → Nat → Nat} {g tk tv : Nat → Nat} {tf : Nat} {cy : Nat → ClassId} : q_ent (l_ad x y a f g tk tv tf) cy k_all 88 (q_T 88) = (.inl (cy 2, 3, .inl (fun j => Int32.ofInt (k_M 88 j))) : va_E) := by
  simp only [en_88, kk_88]
theorem pe_89 {x y : Nat} {a : Nat → Nat} {f : Nat → Nat → Nat} {g tk tv : Nat → Nat} {tf : Nat} {cy : Nat → ClassId} : q_ent (l_ad x y a f g tk tv tf) cy k_all 89 (q_T 89) = (.inl (cy 0, 10, .inl (fun _ => 0)) : va_E) := by
  simp only [en_89, kk_89, k0_89, ez_i, ez_l]
theorem pe_90 {x y : Nat} {a : Nat → Nat} {f : Nat → Nat → Nat} {g tk tv : Nat → Nat} {tf : Nat} {cy : Nat → ClassId} : q_ent (l_ad x y a f g tk tv tf) cy k_all 90 (q_T 90) = (.inl (cy 0, 10, .inl (fun _ => 0)) : va_E) := by
  simp only [en_90, kk_90, k0_90, ez_i, ez_l]
theorem pe_91 {x y : Nat} {a : Nat → Nat} {f : Nat → Nat → Nat} {g tk tv : Nat → Nat} {tf : Nat} {cy : Nat → ClassId} : q_ent (l_ad x y a f g tk tv tf) cy k_all 91 (q_T 91) = (.inl (cy 0, 10, .inl (fun _ => 0)) : va_E) := by
  simp only [en_91, kk_91, k0_91, ez_i, ez_l]
theorem pe_92 {x y : Nat} {a : Nat → Nat} {f : Nat → Nat → Nat} {g tk tv : Nat → Nat} {tf : Nat} {cy : Nat → ClassId} : q_ent (l_ad x y a f g tk tv tf) cy k_all 92 (q_T 92) = (.inl (cy 0, 30, .inl (fun _ => 0)) : va_E) := by
  simp only [en_92, kk_92, k0_92, ez_i, ez_l]
theorem pe_93 {x y : Nat} {a : Nat → Nat} {f : Nat → Nat → Nat} {g tk tv : Nat → Nat} {tf : Nat} {cy : Nat → ClassId} : q_ent (l_ad x y a f g tk tv tf) cy k_all 93 (q_T 93) = (.inl (cy 0, 10, .inl (fun _ => 0)) : va_E) := by
  simp only [en_93, kk_93, k0_93, ez_i, ez_l]
theorem pe_94 {x y : Nat} {a : Nat → Nat} {f : Nat → Nat → Nat} {g tk tv : Nat → Nat} {tf : Nat} {cy : Nat → ClassId} : q_ent (l_ad x y a f g tk tv tf) cy k_all 94 (q_T 94) = (.inl (cy 2, 90, .inl (fun j => Int32.ofInt (k_M 94 j))) : va_E) := by
  simp only [en_94, kk_94]
theorem pe_95 {x y : Nat} {a : Nat → Nat} {f : Nat → Nat → Nat} {g tk tv : Nat → Nat} {tf : Nat} {cy : Nat → ClassId} : q_ent (l_ad x y a f g tk tv tf) cy k_all 95 (q_T 95) = (.inl (cy 0, 100, .inl (fun _ => 0)) : va_E) := by
  simp only [en_95, kk_95, k0_95, ez_i, ez_l]
theorem pe_96 {x y : Nat} {a : Nat → Nat} {f : Nat → Nat → Nat} {g tk tv : Nat → Nat} {tf : Nat} {cy : Nat → ClassId} : q_ent (l_ad x y a f g tk tv tf) cy k_all 96 (q_T 96) = (.inl (cy 0, 1440, .inl (fun _ => 0)) : va_E) := by
  simp only [en_96, kk_96, k0_96, ez_i, ez_l]
theorem pe_97 {x y : Nat} {a : Nat → Nat} {f : Nat → Nat → Nat} {g tk tv : Nat → Nat} {tf : Nat} {cy : Nat → ClassId} : q_ent (l_ad x y a f g tk tv tf) cy k_all 97 (q_T 97) = (.inl (cy 1, 144, .inr (.inl (fun _ => 0))) : va_E) := by
  simp only [en_97, kk_97, k0_97, ez_i, ez_l]
theorem pe_98 {x y : Nat} {a : Nat → Nat} {f : Nat → Nat → Nat} {g tk tv : Nat → Nat} {tf : Nat} {cy : Nat → ClassId} : q_ent (l_ad x y a f g tk tv tf) cy k_all 98 (q_T 98) = (.inl (cy 0, 144, .inl (fun _ => 0)) : va_E) := by
  simp only [en_98, kk_98, k0_98, ez_i, ez_l]
theorem pe_99 {x y : Nat} {a : Nat → Nat} {f : Nat → Nat → Nat} {g tk tv : Nat → Nat} {tf : Nat} {cy : Nat → ClassId} : q_ent (l_ad x y a f g tk tv tf) cy k_all 99 (q_T 99) = (.inl (cy 0, 10, .inl (fun _ => 0)) : va_E) := by
  simp only [en_99, kk_99, k0_99, ez_i, ez_l]
theorem pe_100 {x y : Nat} {a : Nat → Nat} {f : Nat → Nat → Nat} {g tk tv : Nat → Nat} {tf : Nat} {cy : Nat → ClassId} : q_ent (l_ad x y a f g tk tv tf) cy k_all 100 (q_T 100) = (.inl (cy 0, 10, .inl (fun _ => 0)) : va_E) := by
  simp only [en_100, kk_100, k0_100, ez_i, ez_l]
theorem pe_101 {x y : Nat} {a : Nat → Nat} {f : Nat → Nat → Nat} {g tk tv : Nat → Nat} {tf : Nat} {cy : Nat → ClassId} : q_ent (l_ad x y a f g tk tv tf) cy k_all 101 (q_T 101) = (.inl (cy 0, 10, .inl (fun _ => 0)) : va_E) := by
  simp only [en_101, kk_101, k0_101, ez_i, ez_l]
theorem pe_102 {x y : Nat} {a : Nat → Nat} {f : Nat → Nat → Nat} {g tk tv : Nat → Nat} {tf : Nat} {cy : Nat → ClassId} : q_ent (l_ad x y a f g tk tv tf) cy k_all 102 (q_T 102) = (.inl (cy 0, 30, .inl (fun _ => 0)) : va_E) := by
  simp only [en_102, kk_102, k0_102, ez_i, ez_l]
theorem pe_103 {x y : Nat} {a : Nat → Nat} {f : Nat → Nat → Nat} {g tk tv : Nat → Nat} {tf : Nat} {cy : Nat → ClassId} : q_ent (l_ad x y a f g tk tv tf) cy k_all 103 (q_T 103) = (.inl (cy 0, 10, .inl (fun _ => 0)) : va_E) := by
  simp only [en_103, kk_103, k0_103, ez_i, ez_l]
theorem pe_104 {x y : Nat} {a : Nat → Nat} {f : Nat → Nat → Nat} {g tk tv : Nat → Nat} {tf : Nat} {cy : Nat → ClassId} : q_ent (l_ad x y a f g tk tv tf) cy k_all 104 (q_T 104) = (.inl (cy 0, 26, .inl (fun j => Int32.ofInt (k_M 104 j))) : va_E) := by
  simp only [en_104, kk_104]
theorem pe_105 {x y : Nat} {a : Nat → Nat} {f : Nat → Nat → Nat} {g tk tv : Nat → Nat} {tf : Nat} {cy : Nat → ClassId} : q_ent (l_ad x y a f g tk tv tf) cy k_all 105 (q_T 105) = (.inl (cy 0, 300, .inl (fun _ => 0)) : va_E) := by
  simp only [en_105, kk_105, k0_105, ez_i, ez_l]

