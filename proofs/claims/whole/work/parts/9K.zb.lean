/-! the small worlds of the reference's constructor -/
def cn_ax (h0 : Nat) (L : List Nat) : Int → Nat := fun a => if a = 85 then h0 else L.getD (a - 86).toNat 0
theorem cx_85 {h0 : Nat} {L : List Nat} : cn_ax h0 L 85 = h0 := rfl
theorem cx_86 {h0 q0 q1 q2 q3 q4 q5 q6 q7 q8 q9 q10 q11 q12 q13 q14 q15 q16 q17 q18 q19 : Nat} : cn_ax h0 [q0, q1, q2, q3, q4, q5, q6, q7, q8, q9, q10, q11, q12, q13, q14, q15, q16, q17, q18, q19] 86 = q0 := rfl
theorem cx_87 {h0 q0 q1 q2 q3 q4 q5 q6 q7 q8 q9 q10 q11 q12 q13 q14 q15 q16 q17 q18 q19 : Nat} : cn_ax h0 [q0, q1, q2, q3, q4, q5, q6, q7, q8, q9, q10, q11, q12, q13, q14, q15, q16, q17, q18, q19] 87 = q1 := rfl
theorem cx_88 {h0 q0 q1 q2 q3 q4 q5 q6 q7 q8 q9 q10 q11 q12 q13 q14 q15 q16 q17 q18 q19 : Nat} : cn_ax h0 [q0, q1, q2, q3, q4, q5, q6, q7, q8, q9, q10, q11, q12, q13, q14, q15, q16, q17, q18, q19] 88 = q2 := rfl
theorem cx_89 {h0 q0 q1 q2 q3 q4 q5 q6 q7 q8 q9 q10 q11 q12 q13 q14 q15 q16 q17 q18 q19 : Nat} : cn_ax h0 [q0, q1, q2, q3, q4, q5, q6, q7, q8, q9, q10, q11, q12, q13, q14, q15, q16, q17, q18, q19] 89 = q3 := rfl
theorem cx_90 {h0 q0 q1 q2 q3 q4 q5 q6 q7 q8 q9 q10 q11 q12 q13 q14 q15 q16 q17 q18 q19 : Nat} : cn_ax h0 [q0, q1, q2, q3, q4, q5, q6, q7, q8, q9, q10, q11, q12, q13, q14, q15, q16, q17, q18, q19] 90 = q4 := rfl
theorem cx_91 {h0 q0 q1 q2 q3 q4 q5 q6 q7 q8 q9 q10 q11 q12 q13 q14 q15 q16 q17 q18 q19 : Nat} : cn_ax h0 [q0, q1, q2, q3, q4, q5, q6, q7, q8, q9, q10, q11, q12, q13, q14, q15, q16, q17, q18, q19] 91 = q5 := rfl
theorem cx_92 {h0 q0 q1 q2 q3 q4 q5 q6 q7 q8 q9 q10 q11 q12 q13 q14 q15 q16 q17 q18 q19 : Nat} : cn_ax h0 [q0, q1, q2, q3, q4, q5, q6, q7, q8, q9, q10, q11, q12, q13, q14, q15, q16, q17, q18, q19] 92 = q6 := rfl
theorem cx_93 {h0 q0 q1 q2 q3 q4 q5 q6 q7 q8 q9 q10 q11 q12 q13 q14 q15 q16 q17 q18 q19 : Nat} : cn_ax h0 [q0, q1, q2, q3, q4, q5, q6, q7, q8, q9, q10, q11, q12, q13, q14, q15, q16, q17, q18, q19] 93 = q7 := rfl
theorem cx_94 {h0 q0 q1 q2 q3 q4 q5 q6 q7 q8 q9 q10 q11 q12 q13 q14 q15 q16 q17 q18 q19 : Nat} : cn_ax h0 [q0, q1, q2, q3, q4, q5, q6, q7, q8, q9, q10, q11, q12, q13, q14, q15, q16, q17, q18, q19] 94 = q8 := rfl
theorem cx_95 {h0 q0 q1 q2 q3 q4 q5 q6 q7 q8 q9 q10 q11 q12 q13 q14 q15 q16 q17 q18 q19 : Nat} : cn_ax h0 [q0, q1, q2, q3, q4, q5, q6, q7, q8, q9, q10, q11, q12, q13, q14, q15, q16, q17, q18, q19] 95 = q9 := rfl
theorem cx_96 {h0 q0 q1 q2 q3 q4 q5 q6 q7 q8 q9 q10 q11 q12 q13 q14 q15 q16 q17 q18 q19 : Nat} : cn_ax h0 [q0, q1, q2, q3, q4, q5, q6, q7, q8, q9, q10, q11, q12, q13, q14, q15, q16, q17, q18, q19] 96 = q10 := rfl
theorem cx_97 {h0 q0 q1 q2 q3 q4 q5 q6 q7 q8 q9 q10 q11 q12 q13 q14 q15 q16 q17 q18 q19 : Nat} : cn_ax h0 [q0, q1, q2, q3, q4, q5, q6, q7, q8, q9, q10, q11, q12, q13, q14, q15, q16, q17, q18, q19] 97 = q11 := rfl
theorem cx_98 {h0 q0 q1 q2 q3 q4 q5 q6 q7 q8 q9 q10 q11 q12 q13 q14 q15 q16 q17 q18 q19 : Nat} : cn_ax h0 [q0, q1, q2, q3, q4, q5, q6, q7, q8, q9, q10, q11, q12, q13, q14, q15, q16, q17, q18, q19] 98 = q12 := rfl
theorem cx_99 {h0 q0 q1 q2 q3 q4 q5 q6 q7 q8 q9 q10 q11 q12 q13 q14 q15 q16 q17 q18 q19 : Nat} : cn_ax h0 [q0, q1, q2, q3, q4, q5, q6, q7, q8, q9, q10, q11, q12, q13, q14, q15, q16, q17, q18, q19] 99 = q13 := rfl
theorem cx_100 {h0 q0 q1 q2 q3 q4 q5 q6 q7 q8 q9 q10 q11 q12 q13 q14 q15 q16 q17 q18 q19 : Nat} : cn_ax h0 [q0, q1, q2, q3, q4, q5, q6, q7, q8, q9, q10, q11, q12, q13, q14, q15, q16, q17, q18, q19] 100 = q14 := rfl
theorem cx_101 {h0 q0 q1 q2 q3 q4 q5 q6 q7 q8 q9 q10 q11 q12 q13 q14 q15 q16 q17 q18 q19 : Nat} : cn_ax h0 [q0, q1, q2, q3, q4, q5, q6, q7, q8, q9, q10, q11, q12, q13, q14, q15, q16, q17, q18, q19] 101 = q15 := rfl
theorem cx_102 {h0 q0 q1 q2 q3 q4 q5 q6 q7 q8 q9 q10 q11 q12 q13 q14 q15 q16 q17 q18 q19 : Nat} : cn_ax h0 [q0, q1, q2, q3, q4, q5, q6, q7, q8, q9, q10, q11, q12, q13, q14, q15, q16, q17, q18, q19] 102 = q16 := rfl
theorem cx_103 {h0 q0 q1 q2 q3 q4 q5 q6 q7 q8 q9 q10 q11 q12 q13 q14 q15 q16 q17 q18 q19 : Nat} : cn_ax h0 [q0, q1, q2, q3, q4, q5, q6, q7, q8, q9, q10, q11, q12, q13, q14, q15, q16, q17, q18, q19] 103 = q17 := rfl
theorem cx_104 {h0 q0 q1 q2 q3 q4 q5 q6 q7 q8 q9 q10 q11 q12 q13 q14 q15 q16 q17 q18 q19 : Nat} : cn_ax h0 [q0, q1, q2, q3, q4, q5, q6, q7, q8, q9, q10, q11, q12, q13, q14, q15, q16, q17, q18, q19] 104 = q18 := rfl
theorem cx_105 {h0 q0 q1 q2 q3 q4 q5 q6 q7 q8 q9 q10 q11 q12 q13 q14 q15 q16 q17 q18 q19 : Nat} : cn_ax h0 [q0, q1, q2, q3, q4, q5, q6, q7, q8, q9, q10, q11, q12, q13, q14, q15, q16, q17, q18, q19] 105 = q19 := rfl
theorem kn_0 : k_N 85 0 = 0 := by decide +kernel
theorem kn_1 : k_N 85 1 = 0 := by decide +kernel
theorem kn_2 : k_N 85 2 = 8 := by decide +kernel
theorem kn_3 : k_N 85 3 = 8 := by decide +kernel
theorem kn_4 : k_N 85 4 = 0 := by decide +kernel
theorem kn_5 : k_N 85 5 = 0 := by decide +kernel
theorem kn_6 : k_N 85 6 = 0 := by decide +kernel
theorem kn_7 : k_N 85 7 = 0 := by decide +kernel
theorem kn_8 : k_N 85 8 = 0 := by decide +kernel
theorem kn_9 : k_N 85 9 = 0 := by decide +kernel
theorem kn_10 : k_N 85 10 = 0 := by decide +kernel
theorem kn_11 : k_N 85 11 = 0 := by decide +kernel
theorem kn_12 : k_N 85 12 = 0 := by decide +kernel
theorem kn_13 : k_N 85 13 = 0 := by decide +kernel
theorem kn_14 : k_N 85 14 = 0 := by decide +kernel
theorem kn_15 : k_N 85 15 = 0 := by decide +kernel
theorem kn_16 : k_N 85 16 = 0 := by decide +kernel
theorem kn_17 : k_N 85 17 = 0 := by decide +kernel
theorem kn_18 : k_N 85 18 = 0 := by decide +kernel
theorem kn_19 : k_N 85 19 = 0 := by decide +kernel
theorem kn_20 : k_N 85 20 = 0 := by decide +kernel
theorem kn_21 : k_N 85 21 = 0 := by decide +kernel
theorem kn_22 : k_N 85 22 = 0 := by decide +kernel
theorem kn_23 : k_N 85 23 = 0 := by decide +kernel
theorem kn_24 : k_N 85 24 = 0 := by decide +kernel
theorem kn_25 : k_N 85 25 = 0 := by decide +kernel
theorem kn_26 : k_N 85 26 = 0 := by decide +kernel
theorem kn_27 : k_N 85 27 = 0 := by decide +kernel
theorem kn_28 : k_N 85 28 = 0 := by decide +kernel
theorem kn_29 : k_N 85 29 = 0 := by decide +kernel
theorem kn_30 : k_N 85 30 = 0 := by decide +kernel
theorem kn_31 : k_N 85 31 = 0 := by decide +kernel
theorem kn_32 : k_N 85 32 = 0 := by decide +kernel
theorem kn_33 : k_N 85 33 = 0 := by decide +kernel
theorem kn_34 : k_N 85 34 = 0 := by decide +kernel
theorem kn_35 : k_N 85 35 = 0 := by decide +kernel
theorem kn_36 : k_N 85 36 = -1 := by decide +kernel
theorem kn_37 : k_N 85 37 = 0 := by decide +kernel
theorem knz_86 (j : Int) : k_N 86 j = 0 := by
  unfold k_N
  rw [if_neg (by decide), if_neg (by decide)]
theorem knz_88 (j : Int) : k_N 88 j = 0 := by
  unfold k_N
  rw [if_neg (by decide), if_neg (by decide)]
theorem knz_94 (j : Int) : k_N 94 j = 0 := by
  unfold k_N
  rw [if_neg (by decide), if_neg (by decide)]
theorem km_18 : k_M 85 18 = 0 := by decide +kernel
theorem km_19 : k_M 85 19 = 0 := by decide +kernel
theorem km_20 : k_M 85 20 = 0 := by decide +kernel
theorem km_35 : k_M 85 35 = 0 := by decide +kernel
theorem km_37 : k_M 85 37 = 0 := by decide +kernel
set_option maxHeartbeats 400000 in
theorem wx_N {h0 q0 q1 q2 q3 q4 q5 q6 q7 q8 q9 q10 q11 q12 q13 q14 q15 q16 q17 q18 q19 : Nat} {cy : Nat → ClassId} : q_ws (q_Tm [85, 86, 88, 94]) [85, 86, 88, 94] (cn_ax h0 [q0, q1, q2, q3, q4, q5, q6, q7, q8, q9, q10, q11, q12, q13, q14, q15, q16, q17, q18, q19]) cy k_N = ([(h0, .inr (11, [.int 0, .int 0, .int 8, .int 8, .ref q0, .ref q1, .ref q2, .int 0, .ref q3, .ref q4, .ref q5, .ref q6, .ref q7, .ref q8, .int 0, .ref q9, .ref q10, .int 0, .long 0, .long 0, .long 0, .ref q11, .ref q12, .int 0, .ref q13, .ref q14, .ref q15, .ref q16, .ref q17, .ref q18, .ref q19, .int 0, .int 0, .int 0, .int 0, .long 0, .int (-1), .int 0])), (q0, .inl (cy 0, 576, .inl (fun _ => 0))), (q2, .inl (cy 2, 3, .inl (fun _ => 0))), (q8, .inl (cy 2, 90, .inl (fun _ => 0)))] : va_W) := by
  rw [q_wsM]
  unfold q_ws
  simp only [List.map_cons, List.map_nil, en_85, en_86, en_88, en_94, cx_85, cx_86, cx_87, cx_88, cx_89, cx_90, cx_91, cx_92, cx_93, cx_94, cx_95, cx_96, cx_97, cx_98, cx_99, cx_100, cx_101, cx_102, cx_103, cx_104, cx_105, kn_0, kn_1, kn_2, kn_3, kn_4, kn_5, kn_6, kn_7, kn_8, kn_9, kn_10, kn_11, kn_12, kn_13, kn_14, kn_15, kn_16, kn_17, kn_18, kn_19, kn_20, kn_21, kn_22, kn_23, kn_24, kn_25, kn_26, kn_27, kn_28, kn_29, kn_30, kn_31, kn_32, kn_33, kn_34, kn_35, kn_36, kn_37, knz_86, knz_88, knz_94, ez_i, ez_l, ez_m, ez_8]
set_option maxHeartbeats 400000 in
theorem wx_M {h0 q0 q1 q2 q3 q4 q5 q6 q7 q8 q9 q10 q11 q12 q13 q14 q15 q16 q17 q18 q19 : Nat} {cy : Nat → ClassId} : q_ws (q_Tm [85, 86, 88, 94]) [85, 86, 88, 94] (cn_ax h0 [q0, q1, q2, q3, q4, q5, q6, q7, q8, q9, q10, q11, q12, q13, q14, q15, q16, q17, q18, q19]) cy k_M = ([(h0, .inr (11, [.int (Int32.ofInt (k_M 85 0)), .int (Int32.ofInt (k_M 85 1)), .int (Int32.ofInt (k_M 85 2)), .int (Int32.ofInt (k_M 85 3)), .ref q0, .ref q1, .ref q2, .int (Int32.ofInt (k_M 85 7)), .ref q3, .ref q4, .ref q5, .ref q6, .ref q7, .ref q8, .int (Int32.ofInt (k_M 85 14)), .ref q9, .ref q10, .int (Int32.ofInt (k_M 85 17)), .long 0, .long 0, .long 0, .ref q11, .ref q12, .int (Int32.ofInt (k_M 85 23)), .ref q13, .ref q14, .ref q15, .ref q16, .ref q17, .ref q18, .ref q19, .int (Int32.ofInt (k_M 85 31)), .int (Int32.ofInt (k_M 85 32)), .int (Int32.ofInt (k_M 85 33)), .int (Int32.ofInt (k_M 85 34)), .long 0, .int (Int32.ofInt (k_M 85 36)), .int 0])), (q0, .inl (cy 0, 576, .inl (fun j => Int32.ofInt (k_M 86 j)))), (q2, .inl (cy 2, 3, .inl (fun j => Int32.ofInt (k_M 88 j)))), (q8, .inl (cy 2, 90, .inl (fun j => Int32.ofInt (k_M 94 j))))] : va_W) := by
  rw [q_wsM]
  unfold q_ws
  simp only [List.map_cons, List.map_nil, en_85, en_86, en_88, en_94, cx_85, cx_86, cx_87, cx_88, cx_89, cx_90, cx_91, cx_92, cx_93, cx_94, cx_95, cx_96, cx_97, cx_98, cx_99, cx_100, cx_101, cx_102, cx_103, cx_104, cx_105, km_18, km_19, km_20, km_35, km_37, ez_i, ez_l]
theorem cx_T : q_Tm [85, 86, 88, 94] 85 = some (.inl (11, [.inl 0, .inl 0, .inl 0, .inl 0, .inr 86, .inr 87, .inr 88, .inl 0, .inr 89, .inr 90, .inr 91, .inr 92, .inr 93, .inr 94, .inl 0, .inr 95, .inr 96, .inl 0, .inl 1, .inl 1, .inl 1, .inr 97, .inr 98, .inl 0, .inr 99, .inr 100, .inr 101, .inr 102, .inr 103, .inr 104, .inr 105, .inl 0, .inl 0, .inl 0, .inl 0, .inl 1, .inl 0, .inl 2])) := by
  unfold q_Tm
  rw [if_pos (by decide), T_85]
theorem cx_Ta (a : Int) (q : a = 85 ∨ a = 86 ∨ a = 88 ∨ a = 94) : q_Tm [85, 86, 88, 94] a = q_T a := by
  unfold q_Tm
  rw [if_pos (by rcases q with rfl | rfl | rfl | rfl <;> decide)]
theorem cx_sp : sp_X11_clearSheets ([] ++ [.inr (.inr 85)]) k_N (fun o μ2 => o = none ∧ μ2 = k_M) := by
  rw [show ([] ++ [.inr (.inr 85)] : List QV) = [.inr (.inr 85)] from rfl, sp_X11_clearSheets_e]
  exact ⟨rfl, rfl, by unfold k_M; rfl⟩

