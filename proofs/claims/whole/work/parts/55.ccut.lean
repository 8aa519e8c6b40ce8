/-! the class: cutting into tokens -/
def sp_J0_length_8abf5 : QP := fun ra μ K => match ra with
  | [.inr (.inr this)] => ∃ w : Nat, this = 1000 + (w : Int) ∧ w < 15 ∧ K (some (.inl (c_len w))) μ
  | _ => False
theorem sp_J0_length_8abf5_e (this : Int) (μ : QM) (K : Option QV → QM → Prop) : sp_J0_length_8abf5 [.inr (.inr this)] μ K = (∃ w : Nat, this = 1000 + (w : Int) ∧ w < 15 ∧ K (some (.inl (c_len w))) μ) := propext Iff.rfl
theorem sp_J0_length_8abf5_i {ra : List QV} {μ : QM} {K : Option QV → QM → Prop} (h : sp_J0_length_8abf5 ra μ K) : ∃ this : Int, ra = [.inr (.inr this)] ∧ (∃ w : Nat, this = 1000 + (w : Int) ∧ w < 15 ∧ K (some (.inl (c_len w))) μ) := by
  unfold sp_J0_length_8abf5 at h
  split at h
  · exact ⟨_, rfl, h⟩
  · exact h.elim
def sp_J0_charAt_5068e : QP := fun ra μ K => match ra with
  | [.inl i, .inr (.inr this)] => ∃ w k : Nat, this = 1000 + (w : Int) ∧ w < 15 ∧ i = (k : Int) ∧ k < (c_ws.getD w []).length ∧ K (some (.inl (c_ch w k))) μ
  | _ => False
theorem sp_J0_charAt_5068e_e (this i : Int) (μ : QM) (K : Option QV → QM → Prop) : sp_J0_charAt_5068e [.inl i, .inr (.inr this)] μ K = (∃ w k : Nat, this = 1000 + (w : Int) ∧ w < 15 ∧ i = (k : Int) ∧ k < (c_ws.getD w []).length ∧ K (some (.inl (c_ch w k))) μ) := propext Iff.rfl
theorem sp_J0_charAt_5068e_i {ra : List QV} {μ : QM} {K : Option QV → QM → Prop} (h : sp_J0_charAt_5068e ra μ K) : ∃ this i : Int, ra = [.inl i, .inr (.inr this)] ∧ (∃ w k : Nat, this = 1000 + (w : Int) ∧ w < 15 ∧ i = (k : Int) ∧ k < (c_ws.getD w []).length ∧ K (some (.inl (c_ch w k))) μ) := by
  unfold sp_J0_charAt_5068e at h
  split at h
  · exact ⟨_, _, rfl, h⟩
  · exact h.elim
def sp_X8_spelling : QP := fun ra μ K => match ra with
  | [.inl word] => (0 ≤ word ∧ word < 15) ∧ K (some (.inr (.inr (1000 + word)))) μ
  | _ => False
theorem sp_X8_spelling_e (word : Int) (μ : QM) (K : Option QV → QM → Prop) : sp_X8_spelling [.inl word] μ K = ((0 ≤ word ∧ word < 15) ∧ K (some (.inr (.inr (1000 + word)))) μ) := propext Iff.rfl
theorem sp_X8_spelling_i {ra : List QV} {μ : QM} {K : Option QV → QM → Prop} (h : sp_X8_spelling ra μ K) : ∃ word : Int, ra = [.inl word] ∧ ((0 ≤ word ∧ word < 15) ∧ K (some (.inr (.inr (1000 + word)))) μ) := by
  unfold sp_X8_spelling at h
  split at h
  · exact ⟨_, rfl, h⟩
  · exact h.elim
def rm_X8_spelling : Room := { frames := 0, cells := 0, slots := 0, locals := 0 }
def G_X8_spelling : Nat → Nat × QP := fun i => match i with
  | _ => (0, fun _ _ _ => False)
set_option maxRecDepth 100000 in
set_option maxHeartbeats 4000000 in
theorem B_X8_spelling : q_Body cX8_spelling 1 u_X8_spelling fl_X8 ld_X8 G_X8_spelling q_T 3 s_X8_spelling sp_X8_spelling := by
  intro S Rt hR ra μ h
  obtain ⟨word, rfl, h⟩ := sp_X8_spelling_i h
  refine ⟨by simp [q_sl, q_ct], ?_⟩
  show S 0 [some (.inl word)] [] μ
  obtain ⟨h1, hk⟩ := h
  have : word = 0 ∨ word = 1 ∨ word = 2 ∨ word = 3 ∨ word = 4 ∨ word = 5 ∨ word = 6 ∨ word = 7 ∨ word = 8 ∨ word = 9 ∨ word = 10 ∨ word = 11 ∨ word = 12 ∨ word = 13 ∨ word = 14 := by omega
  rcases this with rfl | rfl | rfl | rfl | rfl | rfl | rfl | rfl | rfl | rfl | rfl | rfl | rfl | rfl | rfl
  all_goals
    refine hR 40 [] 0 _ _ _ rfl ?_
    simp only [v_opt_n, v_opt_s, v_nil, v_iconst, v_bipush, v_sipush, v_lconst0, v_lconst1, v_ldc, v_ldcw, v_ldc2, v_iload0, v_iload1, v_iload2, v_iload3, v_iload, v_lload0, v_lload1, v_lload2, v_lload3, v_lload, v_aload0, v_aload1, v_aload2, v_aload3, v_aload, v_istore0, v_istore1, v_istore2, v_istore3, v_istore, v_lstore0, v_lstore1, v_lstore2, v_lstore3, v_lstore, v_astore0, v_astore1, v_astore2, v_astore3, v_astore, v_iinc, v_iadd, v_isub, v_imul, v_iand, v_ior, v_ixor, v_ishl, v_ishr, v_iushr, v_ineg, v_idiv, v_irem, v_ladd, v_lsub, v_lmul, v_lcmp, v_i2l, v_l2i, v_i2c, v_dup, v_dup2, v_if_eq, v_if_ne, v_if_lt, v_if_ge, v_if_gt, v_if_le, v_ic_eq, v_ic_ne, v_ic_lt, v_ic_ge, v_ic_gt, v_ic_le, v_goto, v_tsw, v_lsw, v_ireturn, v_areturn, v_return, v_iaload, v_laload, v_baload, v_caload, v_aaload, v_iastore, v_lastore, v_bastore, v_castore, v_alen, v_invvi, v_invst, v_invsp, e_int, e_lng, e_ref, e_lg0, e_lg1, e_lg2, e_lg3, e_lg4, e_lg5, e_lg6, e_lg7, e_lg8, e_lg9, e_lg10, e_lg11, e_lg12, e_lg13, e_clrI, e_clrJ, e_clrP, e_clrN, e_s0, e_s1, e_s2, e_s3, e_s4, e_s5, e_s6, e_s7, e_s8, e_s9, e_s10, e_s11, e_s12, e_s13, e_t0, e_t1, e_t2, e_t3, e_t4, e_t5, e_t6, e_t7, e_t8, e_t9, e_t10, e_t11, e_t12, e_t13, e_fd, e_kk, e_k0, e_k1, e_k2, e_k3, e_k4, e_k5, e_k6, e_k7, e_k8, e_k9, e_sv0, e_sv1, e_sv2, e_sv3, e_svc, e_pf0, e_pf1, e_pf2, e_pf3, e_ar, e_aa, e_al, e_sw1, e_sw2, e_ct0, e_ct1, e_ct2, e_cat0, e_cat1, e_rk0, e_rk1, e_rk2, e_inv0, e_inv1, e_inv2, e_inv3, e_inv4, e_inv5, e_inv6, e_o0, e_o1, e_cl, e_cle, e_cg, e_cge, e_ce, e_cr1, e_cr2, e_r, e_R, e_up, Int.cast_ofNat_Int, u_app, false_and, and_false, e_b0, e_b1, e_bn, e_bl, e_bu, Int.reduceLE, Int.reduceLT, Int.reduceEq, Int.reduceNeg, Int.reduceAdd, Int.reduceSub, Int.reduceMul, Nat.reduceLeDiff, Nat.reduceLT, Nat.reduceAdd, Nat.reduceEqDiff, true_and, and_true, true_or, or_true, false_or, or_false, forall_const, not_true_eq_false, not_false_eq_true, true_implies, false_implies, implies_true, and_self, zero_ne_one, one_ne_zero, eq_self, reduceIte, s_X8_spelling_0, b_X8_spelling_0, s_X8_spelling_76, b_X8_spelling_76, s_X8_spelling_79, b_X8_spelling_79, s_X8_spelling_82, b_X8_spelling_82, s_X8_spelling_85, b_X8_spelling_85, s_X8_spelling_88, b_X8_spelling_88, s_X8_spelling_91, b_X8_spelling_91, s_X8_spelling_94, b_X8_spelling_94, s_X8_spelling_97, b_X8_spelling_97, s_X8_spelling_100, b_X8_spelling_100, s_X8_spelling_103, b_X8_spelling_103, s_X8_spelling_106, b_X8_spelling_106, s_X8_spelling_109, b_X8_spelling_109, s_X8_spelling_112, b_X8_spelling_112, s_X8_spelling_115, b_X8_spelling_115, s_X8_spelling_118, b_X8_spelling_118, s_X8_spelling_121, b_X8_spelling_121, ld_X8_86, ld_X8_88, ld_X8_90, ld_X8_92, ld_X8_94, ld_X8_96, ld_X8_98, ld_X8_100, ld_X8_102, ld_X8_104, ld_X8_106, ld_X8_108, ld_X8_110, ld_X8_112, ld_X8_114, ld_X8_116]
    exact hk
def sp_X8_isSpelled : QP := fun ra μ K => match ra with
  | [.inl after, .inl start, .inr (.inr word), .inr (.inr this)] => this = 16 ∧ m_tp (μ 14) (μ 13 1) ∧ (0 ≤ start ∧ start ≤ after ∧ after ≤ μ 13 1) ∧ ∃ w : Nat, word = 1000 + (w : Int) ∧ w < 15 ∧ K (some (.inl (q_b (c_spl (μ 14) w start after)))) μ
  | _ => False
theorem sp_X8_isSpelled_e (this word start after : Int) (μ : QM) (K : Option QV → QM → Prop) : sp_X8_isSpelled [.inl after, .inl start, .inr (.inr word), .inr (.inr this)] μ K = (this = 16 ∧ m_tp (μ 14) (μ 13 1) ∧ (0 ≤ start ∧ start ≤ after ∧ after ≤ μ 13 1) ∧ ∃ w : Nat, word = 1000 + (w : Int) ∧ w < 15 ∧ K (some (.inl (q_b (c_spl (μ 14) w start after)))) μ) := propext Iff.rfl
theorem sp_X8_isSpelled_i {ra : List QV} {μ : QM} {K : Option QV → QM → Prop} (h : sp_X8_isSpelled ra μ K) : ∃ this word start after : Int, ra = [.inl after, .inl start, .inr (.inr word), .inr (.inr this)] ∧ (this = 16 ∧ m_tp (μ 14) (μ 13 1) ∧ (0 ≤ start ∧ start ≤ after ∧ after ≤ μ 13 1) ∧ ∃ w : Nat, word = 1000 + (w : Int) ∧ w < 15 ∧ K (some (.inl (q_b (c_spl (μ 14) w start after)))) μ) := by
  unfold sp_X8_isSpelled at h
  split at h
  · exact ⟨_, _, _, _, rfl, h⟩
  · exact h.elim
def rm_X8_isSpelled : Room := { frames := 7, cells := 0, slots := 0, locals := 170 }
def G_X8_isSpelled : Nat → Nat × QP := fun i => match i with
  | 78 => (1, sp_J0_length_8abf5)
  | 53 => (2, sp_X7_byteAt)
  | 83 => (2, sp_J0_charAt_5068e)
  | _ => (0, fun _ _ _ => False)
theorem G_X8_isSpelled_78 : G_X8_isSpelled 78 = (1, sp_J0_length_8abf5) := id rfl
theorem G_X8_isSpelled_53 : G_X8_isSpelled 53 = (2, sp_X7_byteAt) := id rfl
theorem G_X8_isSpelled_83 : G_X8_isSpelled 83 = (2, sp_J0_charAt_5068e) := id rfl
theorem c_ch_b : ∀ w : Nat, w < 15 → ∀ k : Nat, k < (c_ws.getD w []).length → 97 ≤ c_ch w k ∧ c_ch w k ≤ 122 := by decide
theorem c_len_b : ∀ w : Nat, w < 15 → 2 ≤ c_len w ∧ c_len w ≤ 5 := by decide
theorem is_15 {Rt : Option QV → QM → Prop} {S : Nat → QL → List QV → QM → Prop} (hR : q_Rule cX8_isSpelled 5 u_X8_isSpelled fl_X8 ld_X8 G_X8_isSpelled q_T 1 s_X8_isSpelled Rt S) {μ : QM} {start after : Int} {w : Nat} (ht : m_tp (μ 14) (μ 13 1)) (h1 : 0 ≤ start ∧ start ≤ after ∧ after ≤ μ 13 1) (hw : w < 15) (hl : after - start = c_len w) (hk : Rt (some (.inl (q_b (c_spl (μ 14) w start after)))) μ) : ∀ (n i : Nat), i + n = (c_ws.getD w []).length → (∀ j : Nat, j < i → μ 14 (start + j) = c_ch w j) → S 15 [some (.inr (.inr 16)), some (.inr (.inr (1000 + (w : Int)))), some (.inl start), some (.inl after), some (.inl i)] [] μ := by
  intro n
  have hL := ht.1
  have hl' : after - start = ((c_ws.getD w []).length : Int) := hl
  have hlr : 0 ≤ c_len w ∧ c_len w ≤ 300 := by omega
  have e15 : c_len w = ((c_ws.getD w []).length : Int) := rfl
  induction n with
  | zero =>
    intro i h2 h3
    refine hR 40 b_X8_isSpelled_15 15 _ _ _ o_X8_isSpelled_15 ?_
    simp only [v_opt_n, v_opt_s, v_nil, v_iconst, v_bipush, v_sipush, v_lconst0, v_lconst1, v_ldc, v_ldcw, v_ldc2, v_iload0, v_iload1, v_iload2, v_iload3, v_iload, v_lload0, v_lload1, v_lload2, v_lload3, v_lload, v_aload0, v_aload1, v_aload2, v_aload3, v_aload, v_istore0, v_istore1, v_istore2, v_istore3, v_istore, v_lstore0, v_lstore1, v_lstore2, v_lstore3, v_lstore, v_astore0, v_astore1, v_astore2, v_astore3, v_astore, v_iinc, v_iadd, v_isub, v_imul, v_iand, v_ior, v_ixor, v_ishl, v_ishr, v_iushr, v_ineg, v_idiv, v_irem, v_ladd, v_lsub, v_lmul, v_lcmp, v_i2l, v_l2i, v_i2c, v_dup, v_dup2, v_if_eq, v_if_ne, v_if_lt, v_if_ge, v_if_gt, v_if_le, v_ic_eq, v_ic_ne, v_ic_lt, v_ic_ge, v_ic_gt, v_ic_le, v_goto, v_tsw, v_lsw, v_ireturn, v_areturn, v_return, v_iaload, v_laload, v_baload, v_caload, v_aaload, v_iastore, v_lastore, v_bastore, v_castore, v_alen, v_invvi, v_invst, v_invsp, e_int, e_lng, e_ref, e_lg0, e_lg1, e_lg2, e_lg3, e_lg4, e_lg5, e_lg6, e_lg7, e_lg8, e_lg9, e_lg10, e_lg11, e_lg12, e_lg13, e_clrI, e_clrJ, e_clrP, e_clrN, e_s0, e_s1, e_s2, e_s3, e_s4, e_s5, e_s6, e_s7, e_s8, e_s9, e_s10, e_s11, e_s12, e_s13, e_t0, e_t1, e_t2, e_t3, e_t4, e_t5, e_t6, e_t7, e_t8, e_t9, e_t10, e_t11, e_t12, e_t13, e_fd, e_kk, e_k0, e_k1, e_k2, e_k3, e_k4, e_k5, e_k6, e_k7, e_k8, e_k9, e_sv0, e_sv1, e_sv2, e_sv3, e_svc, e_pf0, e_pf1, e_pf2, e_pf3, e_ar, e_aa, e_al, e_sw1, e_sw2, e_ct0, e_ct1, e_ct2, e_cat0, e_cat1, e_rk0, e_rk1, e_rk2, e_inv0, e_inv1, e_inv2, e_inv3, e_inv4, e_inv5, e_inv6, e_o0, e_o1, e_cl, e_cle, e_cg, e_cge, e_ce, e_cr1, e_cr2, e_r, e_R, e_up, Int.cast_ofNat_Int, u_app, false_and, and_false, e_b0, e_b1, e_bn, e_bl, e_bu, Int.reduceLE, Int.reduceLT, Int.reduceEq, Int.reduceNeg, Int.reduceAdd, Int.reduceSub, Int.reduceMul, Nat.reduceLeDiff, Nat.reduceLT, Nat.reduceAdd, Nat.reduceEqDiff, true_and, and_true, true_or, or_true, false_or, or_false, forall_const, not_true_eq_false, not_false_eq_true, true_implies, false_implies, implies_true, and_self, zero_ne_one, one_ne_zero, eq_self, reduceIte, s_X8_isSpelled_0, b_X8_isSpelled_0, s_X8_isSpelled_10, b_X8_isSpelled_10, s_X8_isSpelled_12, b_X8_isSpelled_12, s_X8_isSpelled_15, b_X8_isSpelled_15, s_X8_isSpelled_24, b_X8_isSpelled_24, s_X8_isSpelled_44, b_X8_isSpelled_44, s_X8_isSpelled_46, b_X8_isSpelled_46, s_X8_isSpelled_52, b_X8_isSpelled_52, g_X8_21, G_X8_isSpelled_78, sp_J0_length_8abf5_e, G_X8_isSpelled_53, sp_X7_byteAt_e, G_X8_isSpelled_83, sp_J0_charAt_5068e_e]
    refine ⟨by omega, w, rfl, hw, by omega, fun c => ?_, fun c => by omega⟩
    rw [q_bt ⟨hl, fun j hj => h3 j (by omega)⟩] at hk
    exact hk
  | succ n ih =>
    intro i h2 h3
    have e0 := c_by_in (T := μ 14) (L := μ 13 1) (p := start + i) ⟨by omega, by omega⟩
    have hT := ht.2 (start + i) (by omega) (by omega)
    refine hR 40 b_X8_isSpelled_15 15 _ _ _ o_X8_isSpelled_15 ?_
    simp only [v_opt_n, v_opt_s, v_nil, v_iconst, v_bipush, v_sipush, v_lconst0, v_lconst1, v_ldc, v_ldcw, v_ldc2, v_iload0, v_iload1, v_iload2, v_iload3, v_iload, v_lload0, v_lload1, v_lload2, v_lload3, v_lload, v_aload0, v_aload1, v_aload2, v_aload3, v_aload, v_istore0, v_istore1, v_istore2, v_istore3, v_istore, v_lstore0, v_lstore1, v_lstore2, v_lstore3, v_lstore, v_astore0, v_astore1, v_astore2, v_astore3, v_astore, v_iinc, v_iadd, v_isub, v_imul, v_iand, v_ior, v_ixor, v_ishl, v_ishr, v_iushr, v_ineg, v_idiv, v_irem, v_ladd, v_lsub, v_lmul, v_lcmp, v_i2l, v_l2i, v_i2c, v_dup, v_dup2, v_if_eq, v_if_ne, v_if_lt, v_if_ge, v_if_gt, v_if_le, v_ic_eq, v_ic_ne, v_ic_lt, v_ic_ge, v_ic_gt, v_ic_le, v_goto, v_tsw, v_lsw, v_ireturn, v_areturn, v_return, v_iaload, v_laload, v_baload, v_caload, v_aaload, v_iastore, v_lastore, v_bastore, v_castore, v_alen, v_invvi, v_invst, v_invsp, e_int, e_lng, e_ref, e_lg0, e_lg1, e_lg2, e_lg3, e_lg4, e_lg5, e_lg6, e_lg7, e_lg8, e_lg9, e_lg10, e_lg11, e_lg12, e_lg13, e_clrI, e_clrJ, e_clrP, e_clrN, e_s0, e_s1, e_s2, e_s3, e_s4, e_s5, e_s6, e_s7, e_s8, e_s9, e_s10, e_s11, e_s12, e_s13, e_t0, e_t1, e_t2, e_t3, e_t4, e_t5, e_t6, e_t7, e_t8, e_t9, e_t10, e_t11, e_t12, e_t13, e_fd, e_kk, e_k0, e_k1, e_k2, e_k3, e_k4, e_k5, e_k6, e_k7, e_k8, e_k9, e_sv0, e_sv1, e_sv2, e_sv3, e_svc, e_pf0, e_pf1, e_pf2, e_pf3, e_ar, e_aa, e_al, e_sw1, e_sw2, e_ct0, e_ct1, e_ct2, e_cat0, e_cat1, e_rk0, e_rk1, e_rk2, e_inv0, e_inv1, e_inv2, e_inv3, e_inv4, e_inv5, e_inv6, e_o0, e_o1, e_cl, e_cle, e_cg, e_cge, e_ce, e_cr1, e_cr2, e_r, e_R, e_up, Int.cast_ofNat_Int, u_app, false_and, and_false, e_b0, e_b1, e_bn, e_bl, e_bu, Int.reduceLE, Int.reduceLT, Int.reduceEq, Int.reduceNeg, Int.reduceAdd, Int.reduceSub, Int.reduceMul, Nat.reduceLeDiff, Nat.reduceLT, Nat.reduceAdd, Nat.reduceEqDiff, true_and, and_true, true_or, or_true, false_or, or_false, forall_const, not_true_eq_false, not_false_eq_true, true_implies, false_implies, implies_true, and_self, zero_ne_one, one_ne_zero, eq_self, reduceIte, s_X8_isSpelled_0, b_X8_isSpelled_0, s_X8_isSpelled_10, b_X8_isSpelled_10, s_X8_isSpelled_12, b_X8_isSpelled_12, s_X8_isSpelled_15, b_X8_isSpelled_15, s_X8_isSpelled_24, b_X8_isSpelled_24, s_X8_isSpelled_44, b_X8_isSpelled_44, s_X8_isSpelled_46, b_X8_isSpelled_46, s_X8_isSpelled_52, b_X8_isSpelled_52, g_X8_21, G_X8_isSpelled_78, sp_J0_length_8abf5_e, G_X8_isSpelled_53, sp_X7_byteAt_e, G_X8_isSpelled_83, sp_J0_charAt_5068e_e, e0]
    have hcb := c_ch_b w hw i (by omega)
    refine ⟨by omega, w, rfl, hw, by omega, fun c => by omega, fun c => ⟨by omega, ht, by omega, w, i, rfl, hw, rfl, by omega, by omega, fun c1 => ?_, fun c1 => ?_⟩⟩
    · refine ih (i + 1) (by omega) (fun j hj => ?_)
      by_cases c2 : j = i
      · rw [c2]
        exact c1
      · exact h3 j (by omega)
    · rw [q_bf (fun q => c1 (q.2 i (by omega)))] at hk
      exact hk
set_option maxRecDepth 100000 in
set_option maxHeartbeats 4000000 in
theorem B_X8_isSpelled : q_Body cX8_isSpelled 5 u_X8_isSpelled fl_X8 ld_X8 G_X8_isSpelled q_T 1 s_X8_isSpelled sp_X8_isSpelled := by
  intro S Rt hR ra μ h
  obtain ⟨this, word, start, after, rfl, h⟩ := sp_X8_isSpelled_i h
  refine ⟨by simp [q_sl, q_ct], ?_⟩
  show S 0 [some (.inr (.inr this)), some (.inr (.inr word)), some (.inl start), some (.inl after), none] [] μ
  obtain ⟨rfl, ht, h1, w, rfl, hw, hk⟩ := h
  have hL := ht.1
  have hlb := c_len_b w hw
  refine hR 40 [] 0 _ _ _ rfl ?_
  simp only [v_opt_n, v_opt_s, v_nil, v_iconst, v_bipush, v_sipush, v_lconst0, v_lconst1, v_ldc, v_ldcw, v_ldc2, v_iload0, v_iload1, v_iload2, v_iload3, v_iload, v_lload0, v_lload1, v_lload2, v_lload3, v_lload, v_aload0, v_aload1, v_aload2, v_aload3, v_aload, v_istore0, v_istore1, v_istore2, v_istore3, v_istore, v_lstore0, v_lstore1, v_lstore2, v_lstore3, v_lstore, v_astore0, v_astore1, v_astore2, v_astore3, v_astore, v_iinc, v_iadd, v_isub, v_imul, v_iand, v_ior, v_ixor, v_ishl, v_ishr, v_iushr, v_ineg, v_idiv, v_irem, v_ladd, v_lsub, v_lmul, v_lcmp, v_i2l, v_l2i, v_i2c, v_dup, v_dup2, v_if_eq, v_if_ne, v_if_lt, v_if_ge, v_if_gt, v_if_le, v_ic_eq, v_ic_ne, v_ic_lt, v_ic_ge, v_ic_gt, v_ic_le, v_goto, v_tsw, v_lsw, v_ireturn, v_areturn, v_return, v_iaload, v_laload, v_baload, v_caload, v_aaload, v_iastore, v_lastore, v_bastore, v_castore, v_alen, v_invvi, v_invst, v_invsp, e_int, e_lng, e_ref, e_lg0, e_lg1, e_lg2, e_lg3, e_lg4, e_lg5, e_lg6, e_lg7, e_lg8, e_lg9, e_lg10, e_lg11, e_lg12, e_lg13, e_clrI, e_clrJ, e_clrP, e_clrN, e_s0, e_s1, e_s2, e_s3, e_s4, e_s5, e_s6, e_s7, e_s8, e_s9, e_s10, e_s11, e_s12, e_s13, e_t0, e_t1, e_t2, e_t3, e_t4, e_t5, e_t6, e_t7, e_t8, e_t9, e_t10, e_t11, e_t12, e_t13, e_fd, e_kk, e_k0, e_k1, e_k2, e_k3, e_k4, e_k5, e_k6, e_k7, e_k8, e_k9, e_sv0, e_sv1, e_sv2, e_sv3, e_svc, e_pf0, e_pf1, e_pf2, e_pf3, e_ar, e_aa, e_al, e_sw1, e_sw2, e_ct0, e_ct1, e_ct2, e_cat0, e_cat1, e_rk0, e_rk1, e_rk2, e_inv0, e_inv1, e_inv2, e_inv3, e_inv4, e_inv5, e_inv6, e_o0, e_o1, e_cl, e_cle, e_cg, e_cge, e_ce, e_cr1, e_cr2, e_r, e_R, e_up, Int.cast_ofNat_Int, u_app, false_and, and_false, e_b0, e_b1, e_bn, e_bl, e_bu, Int.reduceLE, Int.reduceLT, Int.reduceEq, Int.reduceNeg, Int.reduceAdd, Int.reduceSub, Int.reduceMul, Nat.reduceLeDiff, Nat.reduceLT, Nat.reduceAdd, Nat.reduceEqDiff, true_and, and_true, true_or, or_true, false_or, or_false, forall_const, not_true_eq_false, not_false_eq_true, true_implies, false_implies, implies_true, and_self, zero_ne_one, one_ne_zero, eq_self, reduceIte, s_X8_isSpelled_0, b_X8_isSpelled_0, s_X8_isSpelled_10, b_X8_isSpelled_10, s_X8_isSpelled_12, b_X8_isSpelled_12, s_X8_isSpelled_15, b_X8_isSpelled_15, s_X8_isSpelled_24, b_X8_isSpelled_24, s_X8_isSpelled_44, b_X8_isSpelled_44, s_X8_isSpelled_46, b_X8_isSpelled_46, s_X8_isSpelled_52, b_X8_isSpelled_52, g_X8_21, G_X8_isSpelled_78, sp_J0_length_8abf5_e, G_X8_isSpelled_53, sp_X7_byteAt_e, G_X8_isSpelled_83, sp_J0_charAt_5068e_e]
  refine ⟨by omega, w, rfl, hw, by omega, fun c => is_15 hR ht h1 hw c hk _ 0 (Nat.zero_add _) (fun j hj => by omega), fun c => ?_⟩
  rw [q_bf (fun q => c q.1)] at hk
  exact hk
def sp_X8_holdLetters : QP := fun ra μ K => match ra with
  | [.inl start, .inr (.inr this)] => this = 16 ∧ m_tp (μ 14) (μ 13 1) ∧ (0 ≤ μ 16 4 ∧ μ 16 4 ≤ 300) ∧ (0 ≤ start ∧ start < μ 13 1 ∧ m_sml (μ 14 start)) ∧ ∃ (e v : Int), (e, v) = m_wd (μ 14) start (μ 13 1 - start).toNat start 0 ∧ K none (if e - start = 1 then c_hold μ 1 (μ 14 start - 97) start else if m_wx v = -1 then c_hold μ 5 0 start else c_hold μ 2 (m_wx v) start)
  | _ => False
theorem sp_X8_holdLetters_e (this start : Int) (μ : QM) (K : Option QV → QM → Prop) : sp_X8_holdLetters [.inl start, .inr (.inr this)] μ K = (this = 16 ∧ m_tp (μ 14) (μ 13 1) ∧ (0 ≤ μ 16 4 ∧ μ 16 4 ≤ 300) ∧ (0 ≤ start ∧ start < μ 13 1 ∧ m_sml (μ 14 start)) ∧ ∃ (e v : Int), (e, v) = m_wd (μ 14) start (μ 13 1 - start).toNat start 0 ∧ K none (if e - start = 1 then c_hold μ 1 (μ 14 start - 97) start else if m_wx v = -1 then c_hold μ 5 0 start else c_hold μ 2 (m_wx v) start)) := propext Iff.rfl
theorem sp_X8_holdLetters_i {ra : List QV} {μ : QM} {K : Option QV → QM → Prop} (h : sp_X8_holdLetters ra μ K) : ∃ this start : Int, ra = [.inl start, .inr (.inr this)] ∧ (this = 16 ∧ m_tp (μ 14) (μ 13 1) ∧ (0 ≤ μ 16 4 ∧ μ 16 4 ≤ 300) ∧ (0 ≤ start ∧ start < μ 13 1 ∧ m_sml (μ 14 start)) ∧ ∃ (e v : Int), (e, v) = m_wd (μ 14) start (μ 13 1 - start).toNat start 0 ∧ K none (if e - start = 1 then c_hold μ 1 (μ 14 start - 97) start else if m_wx v = -1 then c_hold μ 5 0 start else c_hold μ 2 (m_wx v) start)) := by
  unfold sp_X8_holdLetters at h
  split at h
  · exact ⟨_, _, rfl, h⟩
  · exact h.elim
def rm_X8_holdLetters : Room := { frames := 8, cells := 0, slots := 0, locals := 194 }
def G_X8_holdLetters : Nat → Nat × QP := fun i => match i with
  | 47 => (2, sp_X7_isLetter)
  | 53 => (2, sp_X7_byteAt)
  | 43 => (4, sp_X8_hold)
  | 67 => (4, sp_X8_isSpelled)
  | 63 => (1, sp_X8_spelling)
  | _ => (0, fun _ _ _ => False)
theorem G_X8_holdLetters_47 : G_X8_holdLetters 47 = (2, sp_X7_isLetter) := id rfl
theorem G_X8_holdLetters_53 : G_X8_holdLetters 53 = (2, sp_X7_byteAt) := id rfl
theorem G_X8_holdLetters_43 : G_X8_holdLetters 43 = (4, sp_X8_hold) := id rfl
theorem G_X8_holdLetters_67 : G_X8_holdLetters 67 = (4, sp_X8_isSpelled) := id rfl
theorem G_X8_holdLetters_63 : G_X8_holdLetters 63 = (1, sp_X8_spelling) := id rfl
theorem hl_59 {Rt : Option QV → QM → Prop} {S : Nat → QL → List QV → QM → Prop} (hR : q_Rule cX8_holdLetters 4 u_X8_holdLetters fl_X8 ld_X8 G_X8_holdLetters q_T 4 s_X8_holdLetters Rt S) {μ : QM} {start e v : Int} (ht : m_tp (μ 14) (μ 13 1)) (h0 : 0 ≤ μ 16 4 ∧ μ 16 4 ≤ 300) (h1 : 0 ≤ start ∧ start ≤ e ∧ e ≤ μ 13 1) (hx : ∀ w : Nat, w < 15 → (c_spl (μ 14) w start e ↔ m_wx v = w)) (hk : Rt none (if m_wx v = -1 then c_hold μ 5 0 start else c_hold μ 2 (m_wx v) start)) : ∀ (n w : Nat), w + n = 15 → (m_wx v = -1 ∨ (w : Int) ≤ m_wx v) → S 59 [some (.inr (.inr 16)), some (.inl start), some (.inl e), some (.inl w)] [] μ := by
  intro n
  have hb := m_wx_b v
  induction n with
  | zero =>
    intro w h2 h3
    refine hR 40 b_X8_holdLetters_59 59 _ _ _ o_X8_holdLetters_59 ?_
    simp only [v_opt_n, v_opt_s, v_nil, v_iconst, v_bipush, v_sipush, v_lconst0, v_lconst1, v_ldc, v_ldcw, v_ldc2, v_iload0, v_iload1, v_iload2, v_iload3, v_iload, v_lload0, v_lload1, v_lload2, v_lload3, v_lload, v_aload0, v_aload1, v_aload2, v_aload3, v_aload, v_istore0, v_istore1, v_istore2, v_istore3, v_istore, v_lstore0, v_lstore1, v_lstore2, v_lstore3, v_lstore, v_astore0, v_astore1, v_astore2, v_astore3, v_astore, v_iinc, v_iadd, v_isub, v_imul, v_iand, v_ior, v_ixor, v_ishl, v_ishr, v_iushr, v_ineg, v_idiv, v_irem, v_ladd, v_lsub, v_lmul, v_lcmp, v_i2l, v_l2i, v_i2c, v_dup, v_dup2, v_if_eq, v_if_ne, v_if_lt, v_if_ge, v_if_gt, v_if_le, v_ic_eq, v_ic_ne, v_ic_lt, v_ic_ge, v_ic_gt, v_ic_le, v_goto, v_tsw, v_lsw, v_ireturn, v_areturn, v_return, v_iaload, v_laload, v_baload, v_caload, v_aaload, v_iastore, v_lastore, v_bastore, v_castore, v_alen, v_invvi, v_invst, v_invsp, e_int, e_lng, e_ref, e_lg0, e_lg1, e_lg2, e_lg3, e_lg4, e_lg5, e_lg6, e_lg7, e_lg8, e_lg9, e_lg10, e_lg11, e_lg12, e_lg13, e_clrI, e_clrJ, e_clrP, e_clrN, e_s0, e_s1, e_s2, e_s3, e_s4, e_s5, e_s6, e_s7, e_s8, e_s9, e_s10, e_s11, e_s12, e_s13, e_t0, e_t1, e_t2, e_t3, e_t4, e_t5, e_t6, e_t7, e_t8, e_t9, e_t10, e_t11, e_t12, e_t13, e_fd, e_kk, e_k0, e_k1, e_k2, e_k3, e_k4, e_k5, e_k6, e_k7, e_k8, e_k9, e_sv0, e_sv1, e_sv2, e_sv3, e_svc, e_pf0, e_pf1, e_pf2, e_pf3, e_ar, e_aa, e_al, e_sw1, e_sw2, e_ct0, e_ct1, e_ct2, e_cat0, e_cat1, e_rk0, e_rk1, e_rk2, e_inv0, e_inv1, e_inv2, e_inv3, e_inv4, e_inv5, e_inv6, e_o0, e_o1, e_cl, e_cle, e_cg, e_cge, e_ce, e_cr1, e_cr2, e_r, e_R, e_up, Int.cast_ofNat_Int, u_app, false_and, and_false, e_b0, e_b1, e_bn, e_bl, e_bu, Int.reduceLE, Int.reduceLT, Int.reduceEq, Int.reduceNeg, Int.reduceAdd, Int.reduceSub, Int.reduceMul, Nat.reduceLeDiff, Nat.reduceLT, Nat.reduceAdd, Nat.reduceEqDiff, true_and, and_true, true_or, or_true, false_or, or_false, forall_const, not_true_eq_false, not_false_eq_true, true_implies, false_implies, implies_true, and_self, zero_ne_one, one_ne_zero, eq_self, reduceIte, s_X8_holdLetters_0, b_X8_holdLetters_0, s_X8_holdLetters_4, b_X8_holdLetters_4, s_X8_holdLetters_15, b_X8_holdLetters_15, s_X8_holdLetters_26, b_X8_holdLetters_26, s_X8_holdLetters_32, b_X8_holdLetters_32, s_X8_holdLetters_39, b_X8_holdLetters_39, s_X8_holdLetters_57, b_X8_holdLetters_57, s_X8_holdLetters_59, b_X8_holdLetters_59, s_X8_holdLetters_65, b_X8_holdLetters_65, s_X8_holdLetters_78, b_X8_holdLetters_78, s_X8_holdLetters_86, b_X8_holdLetters_86, s_X8_holdLetters_92, b_X8_holdLetters_92, g_X8_21, g_X8_32, G_X8_holdLetters_47, sp_X7_isLetter_e, G_X8_holdLetters_53, sp_X7_byteAt_e, G_X8_holdLetters_43, sp_X8_hold_e, G_X8_holdLetters_67, sp_X8_isSpelled_e, G_X8_holdLetters_63, sp_X8_spelling_e]
    refine ⟨by omega, fun c => ⟨h0, ?_⟩, fun c => by omega⟩
    rw [if_pos (by omega)] at hk
    exact hk
  | succ n ih =>
    intro w h2 h3
    have hxw := hx w (by omega)
    refine hR 40 b_X8_holdLetters_59 59 _ _ _ o_X8_holdLetters_59 ?_
    simp only [v_opt_n, v_opt_s, v_nil, v_iconst, v_bipush, v_sipush, v_lconst0, v_lconst1, v_ldc, v_ldcw, v_ldc2, v_iload0, v_iload1, v_iload2, v_iload3, v_iload, v_lload0, v_lload1, v_lload2, v_lload3, v_lload, v_aload0, v_aload1, v_aload2, v_aload3, v_aload, v_istore0, v_istore1, v_istore2, v_istore3, v_istore, v_lstore0, v_lstore1, v_lstore2, v_lstore3, v_lstore, v_astore0, v_astore1, v_astore2, v_astore3, v_astore, v_iinc, v_iadd, v_isub, v_imul, v_iand, v_ior, v_ixor, v_ishl, v_ishr, v_iushr, v_ineg, v_idiv, v_irem, v_ladd, v_lsub, v_lmul, v_lcmp, v_i2l, v_l2i, v_i2c, v_dup, v_dup2, v_if_eq, v_if_ne, v_if_lt, v_if_ge, v_if_gt, v_if_le, v_ic_eq, v_ic_ne, v_ic_lt, v_ic_ge, v_ic_gt, v_ic_le, v_goto, v_tsw, v_lsw, v_ireturn, v_areturn, v_return, v_iaload, v_laload, v_baload, v_caload, v_aaload, v_iastore, v_lastore, v_bastore, v_castore, v_alen, v_invvi, v_invst, v_invsp, e_int, e_lng, e_ref, e_lg0, e_lg1, e_lg2, e_lg3, e_lg4, e_lg5, e_lg6, e_lg7, e_lg8, e_lg9, e_lg10, e_lg11, e_lg12, e_lg13, e_clrI, e_clrJ, e_clrP, e_clrN, e_s0, e_s1, e_s2, e_s3, e_s4, e_s5, e_s6, e_s7, e_s8, e_s9, e_s10, e_s11, e_s12, e_s13, e_t0, e_t1, e_t2, e_t3, e_t4, e_t5, e_t6, e_t7, e_t8, e_t9, e_t10, e_t11, e_t12, e_t13, e_fd, e_kk, e_k0, e_k1, e_k2, e_k3, e_k4, e_k5, e_k6, e_k7, e_k8, e_k9, e_sv0, e_sv1, e_sv2, e_sv3, e_svc, e_pf0, e_pf1, e_pf2, e_pf3, e_ar, e_aa, e_al, e_sw1, e_sw2, e_ct0, e_ct1, e_ct2, e_cat0, e_cat1, e_rk0, e_rk1, e_rk2, e_inv0, e_inv1, e_inv2, e_inv3, e_inv4, e_inv5, e_inv6, e_o0, e_o1, e_cl, e_cle, e_cg, e_cge, e_ce, e_cr1, e_cr2, e_r, e_R, e_up, Int.cast_ofNat_Int, u_app, false_and, and_false, e_b0, e_b1, e_bn, e_bl, e_bu, Int.reduceLE, Int.reduceLT, Int.reduceEq, Int.reduceNeg, Int.reduceAdd, Int.reduceSub, Int.reduceMul, Nat.reduceLeDiff, Nat.reduceLT, Nat.reduceAdd, Nat.reduceEqDiff, true_and, and_true, true_or, or_true, false_or, or_false, forall_const, not_true_eq_false, not_false_eq_true, true_implies, false_implies, implies_true, and_self, zero_ne_one, one_ne_zero, eq_self, reduceIte, s_X8_holdLetters_0, b_X8_holdLetters_0, s_X8_holdLetters_4, b_X8_holdLetters_4, s_X8_holdLetters_15, b_X8_holdLetters_15, s_X8_holdLetters_26, b_X8_holdLetters_26, s_X8_holdLetters_32, b_X8_holdLetters_32, s_X8_holdLetters_39, b_X8_holdLetters_39, s_X8_holdLetters_57, b_X8_holdLetters_57, s_X8_holdLetters_59, b_X8_holdLetters_59, s_X8_holdLetters_65, b_X8_holdLetters_65, s_X8_holdLetters_78, b_X8_holdLetters_78, s_X8_holdLetters_86, b_X8_holdLetters_86, s_X8_holdLetters_92, b_X8_holdLetters_92, g_X8_21, g_X8_32, G_X8_holdLetters_47, sp_X7_isLetter_e, G_X8_holdLetters_53, sp_X7_byteAt_e, G_X8_holdLetters_43, sp_X8_hold_e, G_X8_holdLetters_67, sp_X8_isSpelled_e, G_X8_holdLetters_63, sp_X8_spelling_e]
    refine ⟨by omega, fun c => by omega, fun c => ⟨by omega, ht, h1, w, rfl, by omega, fun c1 => ih (w + 1) (by omega) ?_, fun c1 => ⟨h0, ?_⟩⟩⟩
    · have : ¬ m_wx v = w := fun q => c1 (hxw.mpr q)
      omega
    · have e1 := hxw.mp (Classical.not_not.mp c1)
      rw [if_neg (by omega), e1] at hk
      exact hk
theorem hl_4 {Rt : Option QV → QM → Prop} {S : Nat → QL → List QV → QM → Prop} (hR : q_Rule cX8_holdLetters 4 u_X8_holdLetters fl_X8 ld_X8 G_X8_holdLetters q_T 4 s_X8_holdLetters Rt S) {μ : QM} {start e v : Int} (ht : m_tp (μ 14) (μ 13 1)) (h0 : 0 ≤ μ 16 4 ∧ μ 16 4 ≤ 300) (hs : 0 ≤ start) (hk : Rt none (if e - start = 1 then c_hold μ 1 (μ 14 start - 97) start else if m_wx v = -1 then c_hold μ 5 0 start else c_hold μ 2 (m_wx v) start)) : ∀ (n k : Nat), start + k + n = μ 13 1 → 1 ≤ k → (∀ j : Int, start ≤ j → j < start + k → m_sml (μ 14 j)) → (e, v) = m_wd (μ 14) start n (start + k) (c_wv (μ 14) start k) → S 4 [some (.inr (.inr 16)), some (.inl start), some (.inl (start + k)), none] [] μ := by
  intro n
  have hL := ht.1
  have go : ∀ (n k : Nat), start + k + n = μ 13 1 → 1 ≤ k → (∀ j : Int, start ≤ j → j < start + k → m_sml (μ 14 j)) → (e, v) = (start + (k : Int), c_wv (μ 14) start k) → ((-2147483648 ≤ start + (k : Int) - start ∧ start + (k : Int) - start ≤ 2147483647) ∧ (¬ start + (k : Int) - start = 1 → S 59 [some (.inr (.inr 16)), some (.inl start), some (.inl (start + k)), some (.inl 0)] [] μ) ∧ (start + (k : Int) - start = 1 → (-2147483648 ≤ start ∧ start ≤ 2147483647) ∧ m_tp (μ 14) (μ 13 1) ∧ (0 ≤ μ 16 4 ∧ μ 16 4 ≤ 300) ∧ Rt none (c_hold μ 1 (c_by (μ 14) (μ 13 1) start - 97) start))) := fun n k h1 h2 h3 he => by
    obtain ⟨rfl, rfl⟩ := Prod.mk.inj he
    refine ⟨by omega, fun c => ?_, fun c => ⟨by omega, ht, h0, ?_⟩⟩
    · rw [if_neg c] at hk
      have hwb := m_wx_b (c_wv (μ 14) start k)
      exact hl_59 hR ht h0 ⟨hs, by omega, by omega⟩ (fun w hw => c_spw (by omega) h3 hw) hk 15 0 rfl (by omega)
    · rw [if_pos c] at hk
      rw [c_by_in ⟨hs, by omega⟩]
      exact hk
  induction n with
  | zero =>
    intro k h1 h2 h3 he
    have g := go 0 k h1 h2 h3 he
    refine hR 40 b_X8_holdLetters_4 4 _ _ _ o_X8_holdLetters_4 ?_
    simp only [v_opt_n, v_opt_s, v_nil, v_iconst, v_bipush, v_sipush, v_lconst0, v_lconst1, v_ldc, v_ldcw, v_ldc2, v_iload0, v_iload1, v_iload2, v_iload3, v_iload, v_lload0, v_lload1, v_lload2, v_lload3, v_lload, v_aload0, v_aload1, v_aload2, v_aload3, v_aload, v_istore0, v_istore1, v_istore2, v_istore3, v_istore, v_lstore0, v_lstore1, v_lstore2, v_lstore3, v_lstore, v_astore0, v_astore1, v_astore2, v_astore3, v_astore, v_iinc, v_iadd, v_isub, v_imul, v_iand, v_ior, v_ixor, v_ishl, v_ishr, v_iushr, v_ineg, v_idiv, v_irem, v_ladd, v_lsub, v_lmul, v_lcmp, v_i2l, v_l2i, v_i2c, v_dup, v_dup2, v_if_eq, v_if_ne, v_if_lt, v_if_ge, v_if_gt, v_if_le, v_ic_eq, v_ic_ne, v_ic_lt, v_ic_ge, v_ic_gt, v_ic_le, v_goto, v_tsw, v_lsw, v_ireturn, v_areturn, v_return, v_iaload, v_laload, v_baload, v_caload, v_aaload, v_iastore, v_lastore, v_bastore, v_castore, v_alen, v_invvi, v_invst, v_invsp, e_int, e_lng, e_ref, e_lg0, e_lg1, e_lg2, e_lg3, e_lg4, e_lg5, e_lg6, e_lg7, e_lg8, e_lg9, e_lg10, e_lg11, e_lg12, e_lg13, e_clrI, e_clrJ, e_clrP, e_clrN, e_s0, e_s1, e_s2, e_s3, e_s4, e_s5, e_s6, e_s7, e_s8, e_s9, e_s10, e_s11, e_s12, e_s13, e_t0, e_t1, e_t2, e_t3, e_t4, e_t5, e_t6, e_t7, e_t8, e_t9, e_t10, e_t11, e_t12, e_t13, e_fd, e_kk, e_k0, e_k1, e_k2, e_k3, e_k4, e_k5, e_k6, e_k7, e_k8, e_k9, e_sv0, e_sv1, e_sv2, e_sv3, e_svc, e_pf0, e_pf1, e_pf2, e_pf3, e_ar, e_aa, e_al, e_sw1, e_sw2, e_ct0, e_ct1, e_ct2, e_cat0, e_cat1, e_rk0, e_rk1, e_rk2, e_inv0, e_inv1, e_inv2, e_inv3, e_inv4, e_inv5, e_inv6, e_o0, e_o1, e_cl, e_cle, e_cg, e_cge, e_ce, e_cr1, e_cr2, e_r, e_R, e_up, Int.cast_ofNat_Int, u_app, false_and, and_false, e_b0, e_b1, e_bn, e_bl, e_bu, Int.reduceLE, Int.reduceLT, Int.reduceEq, Int.reduceNeg, Int.reduceAdd, Int.reduceSub, Int.reduceMul, Nat.reduceLeDiff, Nat.reduceLT, Nat.reduceAdd, Nat.reduceEqDiff, true_and, and_true, true_or, or_true, false_or, or_false, forall_const, not_true_eq_false, not_false_eq_true, true_implies, false_implies, implies_true, and_self, zero_ne_one, one_ne_zero, eq_self, reduceIte, s_X8_holdLetters_0, b_X8_holdLetters_0, s_X8_holdLetters_4, b_X8_holdLetters_4, s_X8_holdLetters_15, b_X8_holdLetters_15, s_X8_holdLetters_26, b_X8_holdLetters_26, s_X8_holdLetters_32, b_X8_holdLetters_32, s_X8_holdLetters_39, b_X8_holdLetters_39, s_X8_holdLetters_57, b_X8_holdLetters_57, s_X8_holdLetters_59, b_X8_holdLetters_59, s_X8_holdLetters_65, b_X8_holdLetters_65, s_X8_holdLetters_78, b_X8_holdLetters_78, s_X8_holdLetters_86, b_X8_holdLetters_86, s_X8_holdLetters_92, b_X8_holdLetters_92, g_X8_21, g_X8_32, G_X8_holdLetters_47, sp_X7_isLetter_e, G_X8_holdLetters_53, sp_X7_byteAt_e, G_X8_holdLetters_43, sp_X8_hold_e, G_X8_holdLetters_67, sp_X8_isSpelled_e, G_X8_holdLetters_63, sp_X8_spelling_e]
    exact ⟨by omega, fun c => g, fun c => by omega⟩
  | succ n ih =>
    intro k h1 h2 h3 he
    have g := go (n + 1) k h1 h2 h3
    have e0 := c_by_in (T := μ 14) (L := μ 13 1) (p := start + k) ⟨by omega, by omega⟩
    refine hR 40 b_X8_holdLetters_4 4 _ _ _ o_X8_holdLetters_4 ?_
    simp only [v_opt_n, v_opt_s, v_nil, v_iconst, v_bipush, v_sipush, v_lconst0, v_lconst1, v_ldc, v_ldcw, v_ldc2, v_iload0, v_iload1, v_iload2, v_iload3, v_iload, v_lload0, v_lload1, v_lload2, v_lload3, v_lload, v_aload0, v_aload1, v_aload2, v_aload3, v_aload, v_istore0, v_istore1, v_istore2, v_istore3, v_istore, v_lstore0, v_lstore1, v_lstore2, v_lstore3, v_lstore, v_astore0, v_astore1, v_astore2, v_astore3, v_astore, v_iinc, v_iadd, v_isub, v_imul, v_iand, v_ior, v_ixor, v_ishl, v_ishr, v_iushr, v_ineg, v_idiv, v_irem, v_ladd, v_lsub, v_lmul, v_lcmp, v_i2l, v_l2i, v_i2c, v_dup, v_dup2, v_if_eq, v_if_ne, v_if_lt, v_if_ge, v_if_gt, v_if_le, v_ic_eq, v_ic_ne, v_ic_lt, v_ic_ge, v_ic_gt, v_ic_le, v_goto, v_tsw, v_lsw, v_ireturn, v_areturn, v_return, v_iaload, v_laload, v_baload, v_caload, v_aaload, v_iastore, v_lastore, v_bastore, v_castore, v_alen, v_invvi, v_invst, v_invsp, e_int, e_lng, e_ref, e_lg0, e_lg1, e_lg2, e_lg3, e_lg4, e_lg5, e_lg6, e_lg7, e_lg8, e_lg9, e_lg10, e_lg11, e_lg12, e_lg13, e_clrI, e_clrJ, e_clrP, e_clrN, e_s0, e_s1, e_s2, e_s3, e_s4, e_s5, e_s6, e_s7, e_s8, e_s9, e_s10, e_s11, e_s12, e_s13, e_t0, e_t1, e_t2, e_t3, e_t4, e_t5, e_t6, e_t7, e_t8, e_t9, e_t10, e_t11, e_t12, e_t13, e_fd, e_kk, e_k0, e_k1, e_k2, e_k3, e_k4, e_k5, e_k6, e_k7, e_k8, e_k9, e_sv0, e_sv1, e_sv2, e_sv3, e_svc, e_pf0, e_pf1, e_pf2, e_pf3, e_ar, e_aa, e_al, e_sw1, e_sw2, e_ct0, e_ct1, e_ct2, e_cat0, e_cat1, e_rk0, e_rk1, e_rk2, e_inv0, e_inv1, e_inv2, e_inv3, e_inv4, e_inv5, e_inv6, e_o0, e_o1, e_cl, e_cle, e_cg, e_cge, e_ce, e_cr1, e_cr2, e_r, e_R, e_up, Int.cast_ofNat_Int, u_app, false_and, and_false, e_b0, e_b1, e_bn, e_bl, e_bu, Int.reduceLE, Int.reduceLT, Int.reduceEq, Int.reduceNeg, Int.reduceAdd, Int.reduceSub, Int.reduceMul, Nat.reduceLeDiff, Nat.reduceLT, Nat.reduceAdd, Nat.reduceEqDiff, true_and, and_true, true_or, or_true, false_or, or_false, forall_const, not_true_eq_false, not_false_eq_true, true_implies, false_implies, implies_true, and_self, zero_ne_one, one_ne_zero, eq_self, reduceIte, s_X8_holdLetters_0, b_X8_holdLetters_0, s_X8_holdLetters_4, b_X8_holdLetters_4, s_X8_holdLetters_15, b_X8_holdLetters_15, s_X8_holdLetters_26, b_X8_holdLetters_26, s_X8_holdLetters_32, b_X8_holdLetters_32, s_X8_holdLetters_39, b_X8_holdLetters_39, s_X8_holdLetters_57, b_X8_holdLetters_57, s_X8_holdLetters_59, b_X8_holdLetters_59, s_X8_holdLetters_65, b_X8_holdLetters_65, s_X8_holdLetters_78, b_X8_holdLetters_78, s_X8_holdLetters_86, b_X8_holdLetters_86, s_X8_holdLetters_92, b_X8_holdLetters_92, g_X8_21, g_X8_32, G_X8_holdLetters_47, sp_X7_isLetter_e, G_X8_holdLetters_53, sp_X7_byteAt_e, G_X8_holdLetters_43, sp_X8_hold_e, G_X8_holdLetters_67, sp_X8_isSpelled_e, G_X8_holdLetters_63, sp_X8_spelling_e, e0]
    have he' : (e, v) = if m_sml (μ 14 (start + k)) then m_wd (μ 14) start n (start + k + 1) (if start + (k : Int) - start < 6 then c_wv (μ 14) start k * 32 + μ 14 (start + k) - 96 else -1) else (start + (k : Int), c_wv (μ 14) start k) := he
    refine ⟨by omega, fun c => by omega, fun c => ⟨by omega, ht, fun c1 => ?_, fun c1 => ?_⟩⟩
    · rw [if_neg c1] at he'
      exact g he'
    · have c1 := Classical.not_not.mp c1
      rw [if_pos c1, show start + (k : Int) - start = (k : Int) by omega, ← c_wv_s] at he'
      have := ih (k + 1) (by omega) (by omega) (fun j j1 j2 => ?_) ?_
      · rw [show start + ((k + 1 : Nat) : Int) = start + k + 1 by omega] at this
        exact this
      · by_cases c2 : j = start + k
        · rw [c2]
          exact c1
        · exact h3 j j1 (by omega)
      · rw [show start + ((k + 1 : Nat) : Int) = start + k + 1 by omega]
        exact he'
set_option maxRecDepth 100000 in
set_option maxHeartbeats 4000000 in
theorem B_X8_holdLetters : q_Body cX8_holdLetters 4 u_X8_holdLetters fl_X8 ld_X8 G_X8_holdLetters q_T 4 s_X8_holdLetters sp_X8_holdLetters := by
  intro S Rt hR ra μ h
  obtain ⟨this, start, rfl, h⟩ := sp_X8_holdLetters_i h
  refine ⟨by simp [q_sl, q_ct], ?_⟩
  show S 0 [some (.inr (.inr this)), some (.inl start), none, none] [] μ
  obtain ⟨rfl, ht, h0, h1, e, v, he, hk⟩ := h
  have hL := ht.1
  refine hR 40 [] 0 _ _ _ rfl ?_
  simp only [v_opt_n, v_opt_s, v_nil, v_iconst, v_bipush, v_sipush, v_lconst0, v_lconst1, v_ldc, v_ldcw, v_ldc2, v_iload0, v_iload1, v_iload2, v_iload3, v_iload, v_lload0, v_lload1, v_lload2, v_lload3, v_lload, v_aload0, v_aload1, v_aload2, v_aload3, v_aload, v_istore0, v_istore1, v_istore2, v_istore3, v_istore, v_lstore0, v_lstore1, v_lstore2, v_lstore3, v_lstore, v_astore0, v_astore1, v_astore2, v_astore3, v_astore, v_iinc, v_iadd, v_isub, v_imul, v_iand, v_ior, v_ixor, v_ishl, v_ishr, v_iushr, v_ineg, v_idiv, v_irem, v_ladd, v_lsub, v_lmul, v_lcmp, v_i2l, v_l2i, v_i2c, v_dup, v_dup2, v_if_eq, v_if_ne, v_if_lt, v_if_ge, v_if_gt, v_if_le, v_ic_eq, v_ic_ne, v_ic_lt, v_ic_ge, v_ic_gt, v_ic_le, v_goto, v_tsw, v_lsw, v_ireturn, v_areturn, v_return, v_iaload, v_laload, v_baload, v_caload, v_aaload, v_iastore, v_lastore, v_bastore, v_castore, v_alen, v_invvi, v_invst, v_invsp, e_int, e_lng, e_ref, e_lg0, e_lg1, e_lg2, e_lg3, e_lg4, e_lg5, e_lg6, e_lg7, e_lg8, e_lg9, e_lg10, e_lg11, e_lg12, e_lg13, e_clrI, e_clrJ, e_clrP, e_clrN, e_s0, e_s1, e_s2, e_s3, e_s4, e_s5, e_s6, e_s7, e_s8, e_s9, e_s10, e_s11, e_s12, e_s13, e_t0, e_t1, e_t2, e_t3, e_t4, e_t5, e_t6, e_t7, e_t8, e_t9, e_t10, e_t11, e_t12, e_t13, e_fd, e_kk, e_k0, e_k1, e_k2, e_k3, e_k4, e_k5, e_k6, e_k7, e_k8, e_k9, e_sv0, e_sv1, e_sv2, e_sv3, e_svc, e_pf0, e_pf1, e_pf2, e_pf3, e_ar, e_aa, e_al, e_sw1, e_sw2, e_ct0, e_ct1, e_ct2, e_cat0, e_cat1, e_rk0, e_rk1, e_rk2, e_inv0, e_inv1, e_inv2, e_inv3, e_inv4, e_inv5, e_inv6, e_o0, e_o1, e_cl, e_cle, e_cg, e_cge, e_ce, e_cr1, e_cr2, e_r, e_R, e_up, Int.cast_ofNat_Int, u_app, false_and, and_false, e_b0, e_b1, e_bn, e_bl, e_bu, Int.reduceLE, Int.reduceLT, Int.reduceEq, Int.reduceNeg, Int.reduceAdd, Int.reduceSub, Int.reduceMul, Nat.reduceLeDiff, Nat.reduceLT, Nat.reduceAdd, Nat.reduceEqDiff, true_and, and_true, true_or, or_true, false_or, or_false, forall_const, not_true_eq_false, not_false_eq_true, true_implies, false_implies, implies_true, and_self, zero_ne_one, one_ne_zero, eq_self, reduceIte, s_X8_holdLetters_0, b_X8_holdLetters_0, s_X8_holdLetters_4, b_X8_holdLetters_4, s_X8_holdLetters_15, b_X8_holdLetters_15, s_X8_holdLetters_26, b_X8_holdLetters_26, s_X8_holdLetters_32, b_X8_holdLetters_32, s_X8_holdLetters_39, b_X8_holdLetters_39, s_X8_holdLetters_57, b_X8_holdLetters_57, s_X8_holdLetters_59, b_X8_holdLetters_59, s_X8_holdLetters_65, b_X8_holdLetters_65, s_X8_holdLetters_78, b_X8_holdLetters_78, s_X8_holdLetters_86, b_X8_holdLetters_86, s_X8_holdLetters_92, b_X8_holdLetters_92, g_X8_21, g_X8_32, G_X8_holdLetters_47, sp_X7_isLetter_e, G_X8_holdLetters_53, sp_X7_byteAt_e, G_X8_holdLetters_43, sp_X8_hold_e, G_X8_holdLetters_67, sp_X8_isSpelled_e, G_X8_holdLetters_63, sp_X8_spelling_e]
  obtain ⟨n, hn⟩ : ∃ n : Nat, (μ 13 1 - start).toNat = n + 1 := ⟨(μ 13 1 - start).toNat - 1, by omega⟩
  refine hl_4 hR (e := e) (v := v) ht h0 h1.1 hk n 1 (by omega) (by omega) (fun j j1 j2 => ?_) ?_
  · rw [show j = start by omega]
    exact h1.2.2
  · rw [he, hn]
    have em : m_wd (μ 14) start (n + 1) start 0 = if m_sml (μ 14 start) then m_wd (μ 14) start n (start + 1) (if start - start < 6 then 0 * 32 + μ 14 start - 96 else -1) else (start, 0) := rfl
    rw [em, if_pos h1.2.2]
    have : c_wv (μ 14) start 1 = (if start - start < 6 then 0 * 32 + μ 14 start - 96 else -1) := by
      rw [c_wv_s, if_pos (by omega), if_pos (by omega), show start + ((0 : Nat) : Int) = start by omega]
      rfl
    rw [this]
    rfl
def sp_X8_holdAt : QP := fun ra μ K => match ra with
  | [.inl start, .inr (.inr this)] => this = 16 ∧ m_tp (μ 14) (μ 13 1) ∧ (0 ≤ μ 16 4 ∧ μ 16 4 ≤ 300) ∧ ∃ i : Nat, start = m_pl (μ 14) (μ 13 1) i ∧ start < μ 13 1 ∧ K none (c_hold μ (m_kd (μ 14) (μ 13 1) i) (m_cd (μ 14) (μ 13 1) i) start)
  | _ => False
theorem sp_X8_holdAt_e (this start : Int) (μ : QM) (K : Option QV → QM → Prop) : sp_X8_holdAt [.inl start, .inr (.inr this)] μ K = (this = 16 ∧ m_tp (μ 14) (μ 13 1) ∧ (0 ≤ μ 16 4 ∧ μ 16 4 ≤ 300) ∧ ∃ i : Nat, start = m_pl (μ 14) (μ 13 1) i ∧ start < μ 13 1 ∧ K none (c_hold μ (m_kd (μ 14) (μ 13 1) i) (m_cd (μ 14) (μ 13 1) i) start)) := propext Iff.rfl
theorem sp_X8_holdAt_i {ra : List QV} {μ : QM} {K : Option QV → QM → Prop} (h : sp_X8_holdAt ra μ K) : ∃ this start : Int, ra = [.inl start, .inr (.inr this)] ∧ (this = 16 ∧ m_tp (μ 14) (μ 13 1) ∧ (0 ≤ μ 16 4 ∧ μ 16 4 ≤ 300) ∧ ∃ i : Nat, start = m_pl (μ 14) (μ 13 1) i ∧ start < μ 13 1 ∧ K none (c_hold μ (m_kd (μ 14) (μ 13 1) i) (m_cd (μ 14) (μ 13 1) i) start)) := by
  unfold sp_X8_holdAt at h
  split at h
  · exact ⟨_, _, rfl, h⟩
  · exact h.elim
def rm_X8_holdAt : Room := { frames := 9, cells := 0, slots := 0, locals := 217 }
def G_X8_holdAt : Nat → Nat × QP := fun i => match i with
  | 47 => (2, sp_X7_isLetter)
  | 57 => (2, sp_X8_holdLetters)
  | 50 => (2, sp_X7_isDigit)
  | 60 => (2, sp_X8_holdDigits)
  | 53 => (2, sp_X7_byteAt)
  | 43 => (4, sp_X8_hold)
  | _ => (0, fun _ _ _ => False)
theorem G_X8_holdAt_47 : G_X8_holdAt 47 = (2, sp_X7_isLetter) := id rfl
theorem G_X8_holdAt_57 : G_X8_holdAt 57 = (2, sp_X8_holdLetters) := id rfl
theorem G_X8_holdAt_50 : G_X8_holdAt 50 = (2, sp_X7_isDigit) := id rfl
theorem G_X8_holdAt_60 : G_X8_holdAt 60 = (2, sp_X8_holdDigits) := id rfl
theorem G_X8_holdAt_53 : G_X8_holdAt 53 = (2, sp_X7_byteAt) := id rfl
theorem G_X8_holdAt_43 : G_X8_holdAt 43 = (4, sp_X8_hold) := id rfl
set_option maxRecDepth 100000 in
set_option maxHeartbeats 4000000 in
theorem B_X8_holdAt : q_Body cX8_holdAt 2 u_X8_holdAt fl_X8 ld_X8 G_X8_holdAt q_T 4 s_X8_holdAt sp_X8_holdAt := by
  intro S Rt hR ra μ h
  obtain ⟨this, start, rfl, h⟩ := sp_X8_holdAt_i h
  refine ⟨by simp [q_sl, q_ct], ?_⟩
  show S 0 [some (.inr (.inr this)), some (.inl start)] [] μ
  obtain ⟨rfl, ht, h0, i, rfl, h1, hk⟩ := h
  have hso : (m_so (μ 14) (μ 13 1) i = 1 ∧ m_sml (μ 14 (m_pl (μ 14) (μ 13 1) i))) ∨ (m_so (μ 14) (μ 13 1) i = 2 ∧ ¬ m_sml (μ 14 (m_pl (μ 14) (μ 13 1) i)) ∧ m_dig (μ 14 (m_pl (μ 14) (μ 13 1) i))) ∨ (m_so (μ 14) (μ 13 1) i = 3 ∧ ¬ m_sml (μ 14 (m_pl (μ 14) (μ 13 1) i)) ∧ ¬ m_dig (μ 14 (m_pl (μ 14) (μ 13 1) i)) ∧ m_wo (μ 14) (μ 13 1) i = μ 14 (m_pl (μ 14) (μ 13 1) i)) := by
    rcases (m_tk_b ht i).2 with q | q | q | q
    · have := q.2.1
      omega
    · exact Or.inl ⟨q.1, q.2.2.1⟩
    · refine Or.inr (Or.inl ⟨q.1, ?_, q.2.2.1⟩)
      have := q.2.2.1
      omega
    · exact Or.inr (Or.inr ⟨q.1, q.2.2.1, q.2.2.2.1, q.2.2.2.2.2.1⟩)
  have hp0 : 0 ≤ m_pl (μ 14) (μ 13 1) i ∧ m_pl (μ 14) (μ 13 1) i ≤ 300 := by
    have h3 := (m_tk_b ht i).1
    have h4 := ht.1
    omega
  have hpr : -2147483648 ≤ m_pl (μ 14) (μ 13 1) i ∧ m_pl (μ 14) (μ 13 1) i ≤ 2147483647 := by omega
  have e0 := c_by_in (T := μ 14) (L := μ 13 1) (p := m_pl (μ 14) (μ 13 1) i) ⟨hp0.1, h1⟩
  refine hR 40 [] 0 _ _ _ rfl ?_
  simp only [v_opt_n, v_opt_s, v_nil, v_iconst, v_bipush, v_sipush, v_lconst0, v_lconst1, v_ldc, v_ldcw, v_ldc2, v_iload0, v_iload1, v_iload2, v_iload3, v_iload, v_lload0, v_lload1, v_lload2, v_lload3, v_lload, v_aload0, v_aload1, v_aload2, v_aload3, v_aload, v_istore0, v_istore1, v_istore2, v_istore3, v_istore, v_lstore0, v_lstore1, v_lstore2, v_lstore3, v_lstore, v_astore0, v_astore1, v_astore2, v_astore3, v_astore, v_iinc, v_iadd, v_isub, v_imul, v_iand, v_ior, v_ixor, v_ishl, v_ishr, v_iushr, v_ineg, v_idiv, v_irem, v_ladd, v_lsub, v_lmul, v_lcmp, v_i2l, v_l2i, v_i2c, v_dup, v_dup2, v_if_eq, v_if_ne, v_if_lt, v_if_ge, v_if_gt, v_if_le, v_ic_eq, v_ic_ne, v_ic_lt, v_ic_ge, v_ic_gt, v_ic_le, v_goto, v_tsw, v_lsw, v_ireturn, v_areturn, v_return, v_iaload, v_laload, v_baload, v_caload, v_aaload, v_iastore, v_lastore, v_bastore, v_castore, v_alen, v_invvi, v_invst, v_invsp, e_int, e_lng, e_ref, e_lg0, e_lg1, e_lg2, e_lg3, e_lg4, e_lg5, e_lg6, e_lg7, e_lg8, e_lg9, e_lg10, e_lg11, e_lg12, e_lg13, e_clrI, e_clrJ, e_clrP, e_clrN, e_s0, e_s1, e_s2, e_s3, e_s4, e_s5, e_s6, e_s7, e_s8, e_s9, e_s10, e_s11, e_s12, e_s13, e_t0, e_t1, e_t2, e_t3, e_t4, e_t5, e_t6, e_t7, e_t8, e_t9, e_t10, e_t11, e_t12, e_t13, e_fd, e_kk, e_k0, e_k1, e_k2, e_k3, e_k4, e_k5, e_k6, e_k7, e_k8, e_k9, e_sv0, e_sv1, e_sv2, e_sv3, e_svc, e_pf0, e_pf1, e_pf2, e_pf3, e_ar, e_aa, e_al, e_sw1, e_sw2, e_ct0, e_ct1, e_ct2, e_cat0, e_cat1, e_rk0, e_rk1, e_rk2, e_inv0, e_inv1, e_inv2, e_inv3, e_inv4, e_inv5, e_inv6, e_o0, e_o1, e_cl, e_cle, e_cg, e_cge, e_ce, e_cr1, e_cr2, e_r, e_R, e_up, Int.cast_ofNat_Int, u_app, false_and, and_false, e_b0, e_b1, e_bn, e_bl, e_bu, Int.reduceLE, Int.reduceLT, Int.reduceEq, Int.reduceNeg, Int.reduceAdd, Int.reduceSub, Int.reduceMul, Nat.reduceLeDiff, Nat.reduceLT, Nat.reduceAdd, Nat.reduceEqDiff, true_and, and_true, true_or, or_true, false_or, or_false, forall_const, not_true_eq_false, not_false_eq_true, true_implies, false_implies, implies_true, and_self, zero_ne_one, one_ne_zero, eq_self, reduceIte, s_X8_holdAt_0, b_X8_holdAt_0, s_X8_holdAt_11, b_X8_holdAt_11, s_X8_holdAt_19, b_X8_holdAt_19, s_X8_holdAt_30, b_X8_holdAt_30, s_X8_holdAt_38, b_X8_holdAt_38, s_X8_holdAt_52, b_X8_holdAt_52, g_X8_21, G_X8_holdAt_47, sp_X7_isLetter_e, G_X8_holdAt_57, sp_X8_holdLetters_e, G_X8_holdAt_50, sp_X7_isDigit_e, G_X8_holdAt_60, sp_X8_holdDigits_e, G_X8_holdAt_53, sp_X7_byteAt_e, G_X8_holdAt_43, sp_X8_hold_e, e0]
  refine ⟨hpr, ht, fun c1 => ⟨hpr, ht, fun c2 => ⟨hpr, ht, h0, ?_⟩, fun c2 => ⟨ht, h0, ⟨hp0.1, h1⟩, ?_⟩⟩, fun c1 => ⟨ht, h0, ⟨hp0.1, h1, Classical.not_not.mp c1⟩, ?_⟩⟩
  · rcases hso with q | q | q
    · exact absurd q.2 c1
    · exact absurd q.2.2 c2
    · obtain ⟨e4, e5⟩ := (m_tk_k (μ 14) (μ 13 1) i).2.2.2.2.2 q.1
      rw [e4, e5, q.2.2.2] at hk
      exact hk
  · rcases hso with q | q | q
    · exact absurd q.2 c1
    · obtain ⟨e4, e5, e8⟩ := (m_tk_k (μ 14) (μ 13 1) i).2.2.2.2.1 q.1
      have e6 := ((c_tki ht i).2.2.2 q.1).1
      have e7 : c_cap (m_wo (μ 14) (μ 13 1) i) = m_cd (μ 14) (μ 13 1) i := by
        unfold c_cap
        by_cases c3 : 1000000 < m_wo (μ 14) (μ 13 1) i
        · rw [if_pos c3, e5 c3]
        · rw [if_neg c3, e8 (Int.not_lt.mp c3)]
      rw [← e6, e7]
      rw [e4] at hk
      exact hk
    · exact absurd q.2.2.1 (fun z => c2 z)
  · rcases hso with q | q | q
    · obtain ⟨⟨e4, e5⟩, -, -⟩ := (c_tki ht i).2.2.1 q.1
      refine ⟨m_pos (μ 14) (μ 13 1) (i + 1), m_wo (μ 14) (μ 13 1) i, Prod.ext e4 e5, ?_⟩
      by_cases c2 : m_pos (μ 14) (μ 13 1) (i + 1) - m_pl (μ 14) (μ 13 1) i = 1
      · obtain ⟨e6, e7⟩ := (m_tk_k (μ 14) (μ 13 1) i).2.1 q.1 c2
        rw [e6, e7] at hk
        rw [if_pos c2]
        exact hk
      · rw [if_neg c2]
        by_cases c3 : m_wx (m_wo (μ 14) (μ 13 1) i) = -1
        · obtain ⟨e6, e7⟩ := (m_tk_k (μ 14) (μ 13 1) i).2.2.1 q.1 c2 c3
          rw [e6, e7] at hk
          rw [if_pos c3]
          exact hk
        · obtain ⟨e6, e7⟩ := (m_tk_k (μ 14) (μ 13 1) i).2.2.2.1 q.1 c2 c3
          rw [e6, e7] at hk
          rw [if_neg c3]
          exact hk
    · exact absurd (Classical.not_not.mp c1) q.2.1
    · exact absurd (Classical.not_not.mp c1) q.2.1
/-- the tokens stand in their rows -/
def c_tok (T : Int → Int) (L : Int) (E : Nat) (μ : QM) : Prop := (E : Int) ≤ L ∧ μ 16 4 = E + 1 ∧ (∀ i : Nat, i ≤ E → μ 17 i = m_kd T L i ∧ μ 18 i = m_cd T L i ∧ μ 19 i = m_pl T L i) ∧ m_kd T L E = 0 ∧ ∀ i : Nat, i < E → ¬ m_kd T L i = 0
def sp_X8_cut : QP := fun ra μ K => match ra with
  | [.inr (.inr this)] => this = 16 ∧ m_tp (μ 14) (μ 13 1) ∧ ∀ (E : Nat) (ν : QM), (∀ a j : Int, ¬ a = 17 → ¬ a = 18 → ¬ a = 19 → ¬ (a = 16 ∧ (j = 4 ∨ j = 5)) → ν a j = μ a j) → ν 16 5 = 0 → c_tok (μ 14) (μ 13 1) E ν → K none ν
  | _ => False
theorem sp_X8_cut_e (this : Int) (μ : QM) (K : Option QV → QM → Prop) : sp_X8_cut [.inr (.inr this)] μ K = (this = 16 ∧ m_tp (μ 14) (μ 13 1) ∧ ∀ (E : Nat) (ν : QM), (∀ a j : Int, ¬ a = 17 → ¬ a = 18 → ¬ a = 19 → ¬ (a = 16 ∧ (j = 4 ∨ j = 5)) → ν a j = μ a j) → ν 16 5 = 0 → c_tok (μ 14) (μ 13 1) E ν → K none ν) := propext Iff.rfl
theorem sp_X8_cut_i {ra : List QV} {μ : QM} {K : Option QV → QM → Prop} (h : sp_X8_cut ra μ K) : ∃ this : Int, ra = [.inr (.inr this)] ∧ (this = 16 ∧ m_tp (μ 14) (μ 13 1) ∧ ∀ (E : Nat) (ν : QM), (∀ a j : Int, ¬ a = 17 → ¬ a = 18 → ¬ a = 19 → ¬ (a = 16 ∧ (j = 4 ∨ j = 5)) → ν a j = μ a j) → ν 16 5 = 0 → c_tok (μ 14) (μ 13 1) E ν → K none ν) := by
  unfold sp_X8_cut at h
  split at h
  · exact ⟨_, rfl, h⟩
  · exact h.elim
def rm_X8_cut : Room := { frames := 10, cells := 0, slots := 0, locals := 238 }
def G_X8_cut : Nat → Nat × QP := fun i => match i with
  | 35 => (2, sp_X8_isStart)
  | 39 => (2, sp_X8_holdAt)
  | 43 => (4, sp_X8_hold)
  | _ => (0, fun _ _ _ => False)
theorem G_X8_cut_35 : G_X8_cut 35 = (2, sp_X8_isStart) := id rfl
theorem G_X8_cut_39 : G_X8_cut 39 = (2, sp_X8_holdAt) := id rfl
theorem G_X8_cut_43 : G_X8_cut 43 = (4, sp_X8_hold) := id rfl
def ct_in (T : Int → Int) (L : Int) (μ : QM) (c : Nat) (p : Int) (ν : QM) : Prop := (∀ a j : Int, ¬ a = 17 → ¬ a = 18 → ¬ a = 19 → ¬ (a = 16 ∧ (j = 4 ∨ j = 5)) → ν a j = μ a j) ∧ ν 16 5 = 0 ∧ ν 16 4 = c ∧ (c : Int) ≤ p ∧ p ≤ m_pl T L c ∧ (c = 0 ∨ m_pl T L (c - 1) < p) ∧ ∀ i : Nat, i < c → (ν 17 i = m_kd T L i ∧ ν 18 i = m_cd T L i ∧ ν 19 i = m_pl T L i) ∧ ¬ m_kd T L i = 0
theorem ct_hold {T : Int → Int} {L : Int} {μ ν : QM} {c : Nat} (hr : (∀ a j : Int, ¬ a = 17 → ¬ a = 18 → ¬ a = 19 → ¬ (a = 16 ∧ (j = 4 ∨ j = 5)) → ν a j = μ a j) ∧ ν 16 5 = 0 ∧ ν 16 4 = c ∧ ∀ i : Nat, i < c → (ν 17 i = m_kd T L i ∧ ν 18 i = m_cd T L i ∧ ν 19 i = m_pl T L i)) : (∀ a j : Int, ¬ a = 17 → ¬ a = 18 → ¬ a = 19 → ¬ (a = 16 ∧ (j = 4 ∨ j = 5)) → c_hold ν (m_kd T L c) (m_cd T L c) (m_pl T L c) a j = μ a j) ∧ c_hold ν (m_kd T L c) (m_cd T L c) (m_pl T L c) 16 5 = 0 ∧ c_hold ν (m_kd T L c) (m_cd T L c) (m_pl T L c) 16 4 = c + 1 ∧ ∀ i : Nat, i ≤ c → (c_hold ν (m_kd T L c) (m_cd T L c) (m_pl T L c) 17 i = m_kd T L i ∧ c_hold ν (m_kd T L c) (m_cd T L c) (m_pl T L c) 18 i = m_cd T L i ∧ c_hold ν (m_kd T L c) (m_cd T L c) (m_pl T L c) 19 i = m_pl T L i) := by
  obtain ⟨r1, r2, r3, r4⟩ := hr
  unfold c_hold
  rw [r3]
  refine ⟨fun a j n1 n2 n3 n4 => ?_, ?_, ?_, fun i hi => ?_⟩
  · rw [u_app, if_neg (by omega), u_app, if_neg (by omega), u_app, if_neg (by omega), u_app, if_neg (by omega)]
    exact r1 a j n1 n2 n3 n4
  · rw [u_app, if_neg (by omega), u_app, if_neg (by omega), u_app, if_neg (by omega), u_app, if_neg (by omega)]
    exact r2
  · rw [u_app, if_pos ⟨rfl, rfl⟩]
  · by_cases c1 : i = c
    · subst c1
      refine ⟨by simp [u_app], by simp [u_app], by simp [u_app]⟩
    · obtain ⟨d1, d2, d3⟩ := r4 i (by omega)
      refine ⟨?_, ?_, ?_⟩
      · rw [u_app, if_neg (by omega), u_app, if_neg (by omega), u_app, if_neg (by omega), u_app, if_neg (by omega)]
        exact d1
      · rw [u_app, if_neg (by omega), u_app, if_neg (by omega), u_app, if_neg (by omega), u_app, if_neg (by omega)]
        exact d2
      · rw [u_app, if_neg (by omega), u_app, if_neg (by omega), u_app, if_neg (by omega), u_app, if_neg (by omega)]
        exact d3
theorem c_ke {T : Int → Int} {L : Int} (ht : m_tp T L) (c : Nat) : (m_pl T L c = L ∧ m_kd T L c = 0 ∧ m_cd T L c = 0) ∨ (m_pl T L c < L ∧ ¬ m_kd T L c = 0 ∧ m_pl T L c < m_pl T L (c + 1)) := by
  obtain ⟨b1, b2⟩ := m_tk_b ht c
  obtain ⟨b3, -⟩ := m_tk_b ht (c + 1)
  obtain ⟨x1, x2, x3, x4, x5, x6⟩ := m_tk_k T L c
  rcases b2 with q | q | q | q
  · exact Or.inl ⟨q.2.1, x1 q.1⟩
  · refine Or.inr ⟨q.2.1, ?_, ?_⟩
    · by_cases c2 : m_pos T L (c + 1) - m_pl T L c = 1
      · rw [(x2 q.1 c2).1]
        decide
      · by_cases c3 : m_wx (m_wo T L c) = -1
        · rw [(x3 q.1 c2 c3).1]
          decide
        · rw [(x4 q.1 c2 c3).1]
          decide
    · have := q.2.2.2.1
      exact Int.lt_of_lt_of_le this b3.2.1
  · refine Or.inr ⟨q.2.1, ?_, ?_⟩
    · rw [(x5 q.1).1]
      decide
    · have := q.2.2.2.1
      exact Int.lt_of_lt_of_le this b3.2.1
  · refine Or.inr ⟨q.2.1, ?_, ?_⟩
    · rw [(x6 q.1).1]
      decide
    · have h1 := q.2.2.2.2.1
      have h2 := b3.2.1
      omega
theorem ct_12 {Rt : Option QV → QM → Prop} {S : Nat → QL → List QV → QM → Prop} (hR : q_Rule cX8_cut 2 u_X8_cut fl_X8 ld_X8 G_X8_cut q_T 4 s_X8_cut Rt S) {μ : QM} (ht : m_tp (μ 14) (μ 13 1)) (hk : ∀ (E : Nat) (ν : QM), (∀ a j : Int, ¬ a = 17 → ¬ a = 18 → ¬ a = 19 → ¬ (a = 16 ∧ (j = 4 ∨ j = 5)) → ν a j = μ a j) → ν 16 5 = 0 → c_tok (μ 14) (μ 13 1) E ν → Rt none ν) : ∀ (n : Nat) (p : Int) (c : Nat) (ν : QM), 0 ≤ p → p + n = μ 13 1 → ct_in (μ 14) (μ 13 1) μ c p ν → S 12 [some (.inr (.inr 16)), some (.inl p)] [] ν := by
  intro n
  have hL := ht.1
  induction n with
  | zero =>
    intro p c ν h0 h1 h2
    obtain ⟨r1, r2, r3, r4, r5, r6, r7⟩ := h2
    have e13 : ν 13 1 = μ 13 1 := r1 13 1 (by omega) (by omega) (by omega) (by omega)
    have ho := ct_hold ⟨r1, r2, r3, fun i hi => (r7 i hi).1⟩
    refine hR 40 b_X8_cut_12 12 _ _ _ o_X8_cut_12 ?_
    simp only [v_opt_n, v_opt_s, v_nil, v_iconst, v_bipush, v_sipush, v_lconst0, v_lconst1, v_ldc, v_ldcw, v_ldc2, v_iload0, v_iload1, v_iload2, v_iload3, v_iload, v_lload0, v_lload1, v_lload2, v_lload3, v_lload, v_aload0, v_aload1, v_aload2, v_aload3, v_aload, v_istore0, v_istore1, v_istore2, v_istore3, v_istore, v_lstore0, v_lstore1, v_lstore2, v_lstore3, v_lstore, v_astore0, v_astore1, v_astore2, v_astore3, v_astore, v_iinc, v_iadd, v_isub, v_imul, v_iand, v_ior, v_ixor, v_ishl, v_ishr, v_iushr, v_ineg, v_idiv, v_irem, v_ladd, v_lsub, v_lmul, v_lcmp, v_i2l, v_l2i, v_i2c, v_dup, v_dup2, v_if_eq, v_if_ne, v_if_lt, v_if_ge, v_if_gt, v_if_le, v_ic_eq, v_ic_ne, v_ic_lt, v_ic_ge, v_ic_gt, v_ic_le, v_goto, v_tsw, v_lsw, v_ireturn, v_areturn, v_return, v_iaload, v_laload, v_baload, v_caload, v_aaload, v_iastore, v_lastore, v_bastore, v_castore, v_alen, v_invvi, v_invst, v_invsp, e_int, e_lng, e_ref, e_lg0, e_lg1, e_lg2, e_lg3, e_lg4, e_lg5, e_lg6, e_lg7, e_lg8, e_lg9, e_lg10, e_lg11, e_lg12, e_lg13, e_clrI, e_clrJ, e_clrP, e_clrN, e_s0, e_s1, e_s2, e_s3, e_s4, e_s5, e_s6, e_s7, e_s8, e_s9, e_s10, e_s11, e_s12, e_s13, e_t0, e_t1, e_t2, e_t3, e_t4, e_t5, e_t6, e_t7, e_t8, e_t9, e_t10, e_t11, e_t12, e_t13, e_fd, e_kk, e_k0, e_k1, e_k2, e_k3, e_k4, e_k5, e_k6, e_k7, e_k8, e_k9, e_sv0, e_sv1, e_sv2, e_sv3, e_svc, e_pf0, e_pf1, e_pf2, e_pf3, e_ar, e_aa, e_al, e_sw1, e_sw2, e_ct0, e_ct1, e_ct2, e_cat0, e_cat1, e_rk0, e_rk1, e_rk2, e_inv0, e_inv1, e_inv2, e_inv3, e_inv4, e_inv5, e_inv6, e_o0, e_o1, e_cl, e_cle, e_cg, e_cge, e_ce, e_cr1, e_cr2, e_r, e_R, e_up, Int.cast_ofNat_Int, u_app, false_and, and_false, e_b0, e_b1, e_bn, e_bl, e_bu, Int.reduceLE, Int.reduceLT, Int.reduceEq, Int.reduceNeg, Int.reduceAdd, Int.reduceSub, Int.reduceMul, Nat.reduceLeDiff, Nat.reduceLT, Nat.reduceAdd, Nat.reduceEqDiff, true_and, and_true, true_or, or_true, false_or, or_false, forall_const, not_true_eq_false, not_false_eq_true, true_implies, false_implies, implies_true, and_self, zero_ne_one, one_ne_zero, eq_self, reduceIte, s_X8_cut_0, b_X8_cut_0, s_X8_cut_12, b_X8_cut_12, s_X8_cut_23, b_X8_cut_23, s_X8_cut_31, b_X8_cut_31, s_X8_cut_36, b_X8_cut_36, s_X8_cut_42, b_X8_cut_42, g_X8_25, p_X8_25, g_X8_29, p_X8_29, g_X8_21, g_X8_32, G_X8_cut_35, sp_X8_isStart_e, G_X8_cut_39, sp_X8_holdAt_e, G_X8_cut_43, sp_X8_hold_e, e13]
    refine ⟨by omega, fun _ => ⟨by omega, ?_⟩, fun c1 => by omega⟩
    rcases c_ke ht c with q | q
    · rw [q.1, q.2.1, q.2.2] at ho
      refine hk c _ ho.1 ho.2.1 ⟨by omega, ho.2.2.1, fun i hi => ?_, q.2.1, fun i hi => (r7 i hi).2⟩
      exact ho.2.2.2 i hi
    · omega
  | succ n ih =>
    intro p c ν h0 h1 h2
    obtain ⟨r1, r2, r3, r4, r5, r6, r7⟩ := id h2
    have e13 : ν 13 1 = μ 13 1 := r1 13 1 (by omega) (by omega) (by omega) (by omega)
    have e14 : ν 14 = μ 14 := funext fun j => r1 14 j (by omega) (by omega) (by omega) (by omega)
    have hst := c_start ht h0 (by omega) r5 r6
    refine hR 40 b_X8_cut_12 12 _ _ _ o_X8_cut_12 ?_
    simp only [v_opt_n, v_opt_s, v_nil, v_iconst, v_bipush, v_sipush, v_lconst0, v_lconst1, v_ldc, v_ldcw, v_ldc2, v_iload0, v_iload1, v_iload2, v_iload3, v_iload, v_lload0, v_lload1, v_lload2, v_lload3, v_lload, v_aload0, v_aload1, v_aload2, v_aload3, v_aload, v_istore0, v_istore1, v_istore2, v_istore3, v_istore, v_lstore0, v_lstore1, v_lstore2, v_lstore3, v_lstore, v_astore0, v_astore1, v_astore2, v_astore3, v_astore, v_iinc, v_iadd, v_isub, v_imul, v_iand, v_ior, v_ixor, v_ishl, v_ishr, v_iushr, v_ineg, v_idiv, v_irem, v_ladd, v_lsub, v_lmul, v_lcmp, v_i2l, v_l2i, v_i2c, v_dup, v_dup2, v_if_eq, v_if_ne, v_if_lt, v_if_ge, v_if_gt, v_if_le, v_ic_eq, v_ic_ne, v_ic_lt, v_ic_ge, v_ic_gt, v_ic_le, v_goto, v_tsw, v_lsw, v_ireturn, v_areturn, v_return, v_iaload, v_laload, v_baload, v_caload, v_aaload, v_iastore, v_lastore, v_bastore, v_castore, v_alen, v_invvi, v_invst, v_invsp, e_int, e_lng, e_ref, e_lg0, e_lg1, e_lg2, e_lg3, e_lg4, e_lg5, e_lg6, e_lg7, e_lg8, e_lg9, e_lg10, e_lg11, e_lg12, e_lg13, e_clrI, e_clrJ, e_clrP, e_clrN, e_s0, e_s1, e_s2, e_s3, e_s4, e_s5, e_s6, e_s7, e_s8, e_s9, e_s10, e_s11, e_s12, e_s13, e_t0, e_t1, e_t2, e_t3, e_t4, e_t5, e_t6, e_t7, e_t8, e_t9, e_t10, e_t11, e_t12, e_t13, e_fd, e_kk, e_k0, e_k1, e_k2, e_k3, e_k4, e_k5, e_k6, e_k7, e_k8, e_k9, e_sv0, e_sv1, e_sv2, e_sv3, e_svc, e_pf0, e_pf1, e_pf2, e_pf3, e_ar, e_aa, e_al, e_sw1, e_sw2, e_ct0, e_ct1, e_ct2, e_cat0, e_cat1, e_rk0, e_rk1, e_rk2, e_inv0, e_inv1, e_inv2, e_inv3, e_inv4, e_inv5, e_inv6, e_o0, e_o1, e_cl, e_cle, e_cg, e_cge, e_ce, e_cr1, e_cr2, e_r, e_R, e_up, Int.cast_ofNat_Int, u_app, false_and, and_false, e_b0, e_b1, e_bn, e_bl, e_bu, Int.reduceLE, Int.reduceLT, Int.reduceEq, Int.reduceNeg, Int.reduceAdd, Int.reduceSub, Int.reduceMul, Nat.reduceLeDiff, Nat.reduceLT, Nat.reduceAdd, Nat.reduceEqDiff, true_and, and_true, true_or, or_true, false_or, or_false, forall_const, not_true_eq_false, not_false_eq_true, true_implies, false_implies, implies_true, and_self, zero_ne_one, one_ne_zero, eq_self, reduceIte, s_X8_cut_0, b_X8_cut_0, s_X8_cut_12, b_X8_cut_12, s_X8_cut_23, b_X8_cut_23, s_X8_cut_31, b_X8_cut_31, s_X8_cut_36, b_X8_cut_36, s_X8_cut_42, b_X8_cut_42, g_X8_25, p_X8_25, g_X8_29, p_X8_29, g_X8_21, g_X8_32, G_X8_cut_35, sp_X8_isStart_e, G_X8_cut_39, sp_X8_holdAt_e, G_X8_cut_43, sp_X8_hold_e, e13, e14]
    refine ⟨by omega, fun c1 => by omega, fun c1 => ⟨ht, by omega, fun c2 => ih (p + 1) c ν (by omega) (by omega) ?_, fun c2 => ⟨ht, by omega, c, hst.mp (Classical.not_not.mp c2), by omega, ih (p + 1) (c + 1) _ (by omega) (by omega) ?_⟩⟩⟩
    · have n1 : ¬ p = m_pl (μ 14) (μ 13 1) c := fun q => c2 (hst.mpr q)
      refine ⟨r1, r2, r3, by omega, by omega, ?_, r7⟩
      rcases r6 with q | q
      · exact Or.inl q
      · exact Or.inr (by omega)
    · have ep := hst.mp (Classical.not_not.mp c2)
      have ho := ct_hold ⟨r1, r2, r3, fun i hi => (r7 i hi).1⟩
      rcases c_ke ht c with q | q
      · omega
      · rw [← ep] at ho
        refine ⟨ho.1, ho.2.1, ?_, by omega, by omega, Or.inr ?_, fun i hi => ⟨ho.2.2.2 i (by omega), ?_⟩⟩
        · rw [ho.2.2.1]
          omega
        · rw [show c + 1 - 1 = c by omega]
          omega
        · by_cases c3 : i = c
          · rw [c3]
            exact q.2.1
          · exact (r7 i (by omega)).2
set_option maxRecDepth 100000 in
set_option maxHeartbeats 4000000 in
theorem B_X8_cut : q_Body cX8_cut 2 u_X8_cut fl_X8 ld_X8 G_X8_cut q_T 4 s_X8_cut sp_X8_cut := by
  intro S Rt hR ra μ h
  obtain ⟨this, rfl, h⟩ := sp_X8_cut_i h
  refine ⟨by simp [q_sl, q_ct], ?_⟩
  show S 0 [some (.inr (.inr this)), none] [] μ
  obtain ⟨rfl, ht, hk⟩ := h
  have hL := ht.1
  refine hR 40 [] 0 _ _ _ rfl ?_
  simp only [v_opt_n, v_opt_s, v_nil, v_iconst, v_bipush, v_sipush, v_lconst0, v_lconst1, v_ldc, v_ldcw, v_ldc2, v_iload0, v_iload1, v_iload2, v_iload3, v_iload, v_lload0, v_lload1, v_lload2, v_lload3, v_lload, v_aload0, v_aload1, v_aload2, v_aload3, v_aload, v_istore0, v_istore1, v_istore2, v_istore3, v_istore, v_lstore0, v_lstore1, v_lstore2, v_lstore3, v_lstore, v_astore0, v_astore1, v_astore2, v_astore3, v_astore, v_iinc, v_iadd, v_isub, v_imul, v_iand, v_ior, v_ixor, v_ishl, v_ishr, v_iushr, v_ineg, v_idiv, v_irem, v_ladd, v_lsub, v_lmul, v_lcmp, v_i2l, v_l2i, v_i2c, v_dup, v_dup2, v_if_eq, v_if_ne, v_if_lt, v_if_ge, v_if_gt, v_if_le, v_ic_eq, v_ic_ne, v_ic_lt, v_ic_ge, v_ic_gt, v_ic_le, v_goto, v_tsw, v_lsw, v_ireturn, v_areturn, v_return, v_iaload, v_laload, v_baload, v_caload, v_aaload, v_iastore, v_lastore, v_bastore, v_castore, v_alen, v_invvi, v_invst, v_invsp, e_int, e_lng, e_ref, e_lg0, e_lg1, e_lg2, e_lg3, e_lg4, e_lg5, e_lg6, e_lg7, e_lg8, e_lg9, e_lg10, e_lg11, e_lg12, e_lg13, e_clrI, e_clrJ, e_clrP, e_clrN, e_s0, e_s1, e_s2, e_s3, e_s4, e_s5, e_s6, e_s7, e_s8, e_s9, e_s10, e_s11, e_s12, e_s13, e_t0, e_t1, e_t2, e_t3, e_t4, e_t5, e_t6, e_t7, e_t8, e_t9, e_t10, e_t11, e_t12, e_t13, e_fd, e_kk, e_k0, e_k1, e_k2, e_k3, e_k4, e_k5, e_k6, e_k7, e_k8, e_k9, e_sv0, e_sv1, e_sv2, e_sv3, e_svc, e_pf0, e_pf1, e_pf2, e_pf3, e_ar, e_aa, e_al, e_sw1, e_sw2, e_ct0, e_ct1, e_ct2, e_cat0, e_cat1, e_rk0, e_rk1, e_rk2, e_inv0, e_inv1, e_inv2, e_inv3, e_inv4, e_inv5, e_inv6, e_o0, e_o1, e_cl, e_cle, e_cg, e_cge, e_ce, e_cr1, e_cr2, e_r, e_R, e_up, Int.cast_ofNat_Int, u_app, false_and, and_false, e_b0, e_b1, e_bn, e_bl, e_bu, Int.reduceLE, Int.reduceLT, Int.reduceEq, Int.reduceNeg, Int.reduceAdd, Int.reduceSub, Int.reduceMul, Nat.reduceLeDiff, Nat.reduceLT, Nat.reduceAdd, Nat.reduceEqDiff, true_and, and_true, true_or, or_true, false_or, or_false, forall_const, not_true_eq_false, not_false_eq_true, true_implies, false_implies, implies_true, and_self, zero_ne_one, one_ne_zero, eq_self, reduceIte, s_X8_cut_0, b_X8_cut_0, s_X8_cut_12, b_X8_cut_12, s_X8_cut_23, b_X8_cut_23, s_X8_cut_31, b_X8_cut_31, s_X8_cut_36, b_X8_cut_36, s_X8_cut_42, b_X8_cut_42, g_X8_25, p_X8_25, g_X8_29, p_X8_29, g_X8_21, g_X8_32, G_X8_cut_35, sp_X8_isStart_e, G_X8_cut_39, sp_X8_holdAt_e, G_X8_cut_43, sp_X8_hold_e]
  have hb := (m_tk_b ht 0).1
  refine ct_12 hR ht hk (μ 13 1).toNat 0 0 _ (by omega) (by omega) ⟨fun a j n1 n2 n3 n4 => ?_, ?_, ?_, by omega, by omega, Or.inl rfl, fun i hi => by omega⟩
  · rw [u_app, if_neg (by omega), u_app, if_neg (by omega)]
  · simp [u_app]
  · simp [u_app]

