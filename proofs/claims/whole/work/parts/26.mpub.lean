/-! the reference: the small public methods -/
theorem q_and255 (a : Int) : 0 ≤ q_and a 255 ∧ q_and a 255 ≤ 255 := by
  have h : Int32.ofInt a &&& Int32.ofInt 255 = nI ((Int32.ofInt a).toBitVec.toNat % 2 ^ 8) := pk_and _ 8 (by decide)
  unfold q_and
  rw [h, nI_toInt (by omega)]
  omega
def m_byte (v k : Int) : Int := q_and (q_shr v k) 255
/-- four bytes behind the tape -/
def m_four (μ : QM) (v : Int) : QM := q_up (q_up (q_up (q_up (q_up μ 105 (μ 85 31) (m_byte v 24)) 105 (μ 85 31 + 1) (m_byte v 16)) 105 (μ 85 31 + 2) (m_byte v 8)) 105 (μ 85 31 + 3) (m_byte v 0)) 85 31 (μ 85 31 + 4)
def sp_X11_four : QP := fun ra μ K => match ra with
  | [.inl v, .inr (.inr this)] => this = 85 ∧ (0 ≤ μ 85 31 ∧ μ 85 31 ≤ 296) ∧ K none (m_four μ v)
  | _ => False
theorem sp_X11_four_e (this v : Int) (μ : QM) (K : Option QV → QM → Prop) : sp_X11_four [.inl v, .inr (.inr this)] μ K = (this = 85 ∧ (0 ≤ μ 85 31 ∧ μ 85 31 ≤ 296) ∧ K none (m_four μ v)) := propext Iff.rfl
theorem sp_X11_four_i {ra : List QV} {μ : QM} {K : Option QV → QM → Prop} (h : sp_X11_four ra μ K) : ∃ this v : Int, ra = [.inl v, .inr (.inr this)] ∧ (this = 85 ∧ (0 ≤ μ 85 31 ∧ μ 85 31 ≤ 296) ∧ K none (m_four μ v)) := by
  unfold sp_X11_four at h
  split at h
  · exact ⟨_, _, rfl, h⟩
  · exact h.elim
def rm_X11_four : Room := { frames := 0, cells := 0, slots := 0, locals := 0 }
def G_X11_four : Nat → Nat × QP := fun i => match i with
  | _ => (0, fun _ _ _ => False)
theorem u_comm {μ : QM} {a k z b j y : Int} (h : ¬ a = b) : q_up (q_up μ a k z) b j y = q_up (q_up μ b j y) a k z := by
  funext c i
  unfold q_up
  by_cases c1 : c = a ∧ i = k
  · have c2 : ¬ (c = b ∧ i = j) := fun q => h (c1.1.symm.trans q.1)
    rw [if_neg c2, if_pos c1, if_pos c1]
  · by_cases c2 : c = b ∧ i = j
    · rw [if_pos c2, if_neg c1, if_pos c2]
    · rw [if_neg c2, if_neg c1, if_neg c1, if_neg c2]
theorem u_twice {μ : QM} {a k z y : Int} : q_up (q_up μ a k z) a k y = q_up μ a k y := by
  funext c i
  unfold q_up
  split <;> rfl
set_option maxRecDepth 100000 in
set_option maxHeartbeats 4000000 in
theorem B_X11_four : q_Body cX11_four 3 u_X11_four fl_X11 ld_X11 G_X11_four q_T 4 s_X11_four sp_X11_four := by
  intro S Rt hR ra μ h
  obtain ⟨this, v, rfl, h⟩ := sp_X11_four_i h
  refine ⟨by simp [q_sl, q_ct], ?_⟩
  show S 0 [some (.inr (.inr this)), some (.inl v), none] [] μ
  obtain ⟨rfl, h1, hk⟩ := h
  refine hR 40 [] 0 _ _ _ rfl ?_
  simp only [v_opt_n, v_opt_s, v_nil, v_iconst, v_bipush, v_sipush, v_lconst0, v_lconst1, v_ldc, v_ldcw, v_ldc2, v_iload0, v_iload1, v_iload2, v_iload3, v_iload, v_lload0, v_lload1, v_lload2, v_lload3, v_lload, v_aload0, v_aload1, v_aload2, v_aload3, v_aload, v_istore0, v_istore1, v_istore2, v_istore3, v_istore, v_lstore0, v_lstore1, v_lstore2, v_lstore3, v_lstore, v_astore0, v_astore1, v_astore2, v_astore3, v_astore, v_iinc, v_iadd, v_isub, v_imul, v_iand, v_ior, v_ixor, v_ishl, v_ishr, v_iushr, v_ineg, v_idiv, v_irem, v_ladd, v_lsub, v_lmul, v_lcmp, v_i2l, v_l2i, v_i2c, v_dup, v_dup2, v_if_eq, v_if_ne, v_if_lt, v_if_ge, v_if_gt, v_if_le, v_ic_eq, v_ic_ne, v_ic_lt, v_ic_ge, v_ic_gt, v_ic_le, v_goto, v_tsw, v_lsw, v_ireturn, v_areturn, v_return, v_iaload, v_laload, v_baload, v_caload, v_aaload, v_iastore, v_lastore, v_bastore, v_castore, v_alen, v_invvi, v_invst, v_invsp, e_int, e_lng, e_ref, e_lg0, e_lg1, e_lg2, e_lg3, e_lg4, e_lg5, e_lg6, e_lg7, e_lg8, e_lg9, e_lg10, e_lg11, e_lg12, e_lg13, e_clrI, e_clrJ, e_clrP, e_clrN, e_s0, e_s1, e_s2, e_s3, e_s4, e_s5, e_s6, e_s7, e_s8, e_s9, e_s10, e_s11, e_s12, e_s13, e_t0, e_t1, e_t2, e_t3, e_t4, e_t5, e_t6, e_t7, e_t8, e_t9, e_t10, e_t11, e_t12, e_t13, e_fd, e_kk, e_k0, e_k1, e_k2, e_k3, e_k4, e_k5, e_k6, e_k7, e_k8, e_k9, e_sv0, e_sv1, e_sv2, e_sv3, e_svc, e_pf0, e_pf1, e_pf2, e_pf3, e_ar, e_aa, e_al, e_sw1, e_sw2, e_ct0, e_ct1, e_ct2, e_cat0, e_cat1, e_rk0, e_rk1, e_rk2, e_inv0, e_inv1, e_inv2, e_inv3, e_inv4, e_inv5, e_inv6, e_o0, e_o1, e_cl, e_cle, e_cg, e_cge, e_ce, e_cr1, e_cr2, e_r, e_R, e_up, Int.cast_ofNat_Int, u_app, false_and, and_false, e_b0, e_b1, e_bn, e_bl, e_bu, Int.reduceLE, Int.reduceLT, Int.reduceEq, Int.reduceNeg, Int.reduceAdd, Int.reduceSub, Int.reduceMul, Nat.reduceLeDiff, Nat.reduceLT, Nat.reduceAdd, Nat.reduceEqDiff, true_and, and_true, true_or, or_true, false_or, or_false, forall_const, not_true_eq_false, not_false_eq_true, true_implies, false_implies, implies_true, and_self, zero_ne_one, one_ne_zero, eq_self, reduceIte, s_X11_four_0, b_X11_four_0, s_X11_four_3, b_X11_four_3, s_X11_four_7, b_X11_four_7, s_X11_four_39, b_X11_four_39, g_X11_76, g_X11_218, p_X11_218]
  refine hR 40 b_X11_four_3 3 _ _ _ o_X11_four_3 ?_
  simp only [v_opt_n, v_opt_s, v_nil, v_iconst, v_bipush, v_sipush, v_lconst0, v_lconst1, v_ldc, v_ldcw, v_ldc2, v_iload0, v_iload1, v_iload2, v_iload3, v_iload, v_lload0, v_lload1, v_lload2, v_lload3, v_lload, v_aload0, v_aload1, v_aload2, v_aload3, v_aload, v_istore0, v_istore1, v_istore2, v_istore3, v_istore, v_lstore0, v_lstore1, v_lstore2, v_lstore3, v_lstore, v_astore0, v_astore1, v_astore2, v_astore3, v_astore, v_iinc, v_iadd, v_isub, v_imul, v_iand, v_ior, v_ixor, v_ishl, v_ishr, v_iushr, v_ineg, v_idiv, v_irem, v_ladd, v_lsub, v_lmul, v_lcmp, v_i2l, v_l2i, v_i2c, v_dup, v_dup2, v_if_eq, v_if_ne, v_if_lt, v_if_ge, v_if_gt, v_if_le, v_ic_eq, v_ic_ne, v_ic_lt, v_ic_ge, v_ic_gt, v_ic_le, v_goto, v_tsw, v_lsw, v_ireturn, v_areturn, v_return, v_iaload, v_laload, v_baload, v_caload, v_aaload, v_iastore, v_lastore, v_bastore, v_castore, v_alen, v_invvi, v_invst, v_invsp, e_int, e_lng, e_ref, e_lg0, e_lg1, e_lg2, e_lg3, e_lg4, e_lg5, e_lg6, e_lg7, e_lg8, e_lg9, e_lg10, e_lg11, e_lg12, e_lg13, e_clrI, e_clrJ, e_clrP, e_clrN, e_s0, e_s1, e_s2, e_s3, e_s4, e_s5, e_s6, e_s7, e_s8, e_s9, e_s10, e_s11, e_s12, e_s13, e_t0, e_t1, e_t2, e_t3, e_t4, e_t5, e_t6, e_t7, e_t8, e_t9, e_t10, e_t11, e_t12, e_t13, e_fd, e_kk, e_k0, e_k1, e_k2, e_k3, e_k4, e_k5, e_k6, e_k7, e_k8, e_k9, e_sv0, e_sv1, e_sv2, e_sv3, e_svc, e_pf0, e_pf1, e_pf2, e_pf3, e_ar, e_aa, e_al, e_sw1, e_sw2, e_ct0, e_ct1, e_ct2, e_cat0, e_cat1, e_rk0, e_rk1, e_rk2, e_inv0, e_inv1, e_inv2, e_inv3, e_inv4, e_inv5, e_inv6, e_o0, e_o1, e_cl, e_cle, e_cg, e_cge, e_ce, e_cr1, e_cr2, e_r, e_R, e_up, Int.cast_ofNat_Int, u_app, false_and, and_false, e_b0, e_b1, e_bn, e_bl, e_bu, Int.reduceLE, Int.reduceLT, Int.reduceEq, Int.reduceNeg, Int.reduceAdd, Int.reduceSub, Int.reduceMul, Nat.reduceLeDiff, Nat.reduceLT, Nat.reduceAdd, Nat.reduceEqDiff, true_and, and_true, true_or, or_true, false_or, or_false, forall_const, not_true_eq_false, not_false_eq_true, true_implies, false_implies, implies_true, and_self, zero_ne_one, one_ne_zero, eq_self, reduceIte, s_X11_four_0, b_X11_four_0, s_X11_four_3, b_X11_four_3, s_X11_four_7, b_X11_four_7, s_X11_four_39, b_X11_four_39, g_X11_76, g_X11_218, p_X11_218, T_105]
  refine ⟨by omega, by omega, ?_⟩
  refine hR 40 b_X11_four_3 3 _ _ _ o_X11_four_3 ?_
  simp only [v_opt_n, v_opt_s, v_nil, v_iconst, v_bipush, v_sipush, v_lconst0, v_lconst1, v_ldc, v_ldcw, v_ldc2, v_iload0, v_iload1, v_iload2, v_iload3, v_iload, v_lload0, v_lload1, v_lload2, v_lload3, v_lload, v_aload0, v_aload1, v_aload2, v_aload3, v_aload, v_istore0, v_istore1, v_istore2, v_istore3, v_istore, v_lstore0, v_lstore1, v_lstore2, v_lstore3, v_lstore, v_astore0, v_astore1, v_astore2, v_astore3, v_astore, v_iinc, v_iadd, v_isub, v_imul, v_iand, v_ior, v_ixor, v_ishl, v_ishr, v_iushr, v_ineg, v_idiv, v_irem, v_ladd, v_lsub, v_lmul, v_lcmp, v_i2l, v_l2i, v_i2c, v_dup, v_dup2, v_if_eq, v_if_ne, v_if_lt, v_if_ge, v_if_gt, v_if_le, v_ic_eq, v_ic_ne, v_ic_lt, v_ic_ge, v_ic_gt, v_ic_le, v_goto, v_tsw, v_lsw, v_ireturn, v_areturn, v_return, v_iaload, v_laload, v_baload, v_caload, v_aaload, v_iastore, v_lastore, v_bastore, v_castore, v_alen, v_invvi, v_invst, v_invsp, e_int, e_lng, e_ref, e_lg0, e_lg1, e_lg2, e_lg3, e_lg4, e_lg5, e_lg6, e_lg7, e_lg8, e_lg9, e_lg10, e_lg11, e_lg12, e_lg13, e_clrI, e_clrJ, e_clrP, e_clrN, e_s0, e_s1, e_s2, e_s3, e_s4, e_s5, e_s6, e_s7, e_s8, e_s9, e_s10, e_s11, e_s12, e_s13, e_t0, e_t1, e_t2, e_t3, e_t4, e_t5, e_t6, e_t7, e_t8, e_t9, e_t10, e_t11, e_t12, e_t13, e_fd, e_kk, e_k0, e_k1, e_k2, e_k3, e_k4, e_k5, e_k6, e_k7, e_k8, e_k9, e_sv0, e_sv1, e_sv2, e_sv3, e_svc, e_pf0, e_pf1, e_pf2, e_pf3, e_ar, e_aa, e_al, e_sw1, e_sw2, e_ct0, e_ct1, e_ct2, e_cat0, e_cat1, e_rk0, e_rk1, e_rk2, e_inv0, e_inv1, e_inv2, e_inv3, e_inv4, e_inv5, e_inv6, e_o0, e_o1, e_cl, e_cle, e_cg, e_cge, e_ce, e_cr1, e_cr2, e_r, e_R, e_up, Int.cast_ofNat_Int, u_app, false_and, and_false, e_b0, e_b1, e_bn, e_bl, e_bu, Int.reduceLE, Int.reduceLT, Int.reduceEq, Int.reduceNeg, Int.reduceAdd, Int.reduceSub, Int.reduceMul, Nat.reduceLeDiff, Nat.reduceLT, Nat.reduceAdd, Nat.reduceEqDiff, true_and, and_true, true_or, or_true, false_or, or_false, forall_const, not_true_eq_false, not_false_eq_true, true_implies, false_implies, implies_true, and_self, zero_ne_one, one_ne_zero, eq_self, reduceIte, s_X11_four_0, b_X11_four_0, s_X11_four_3, b_X11_four_3, s_X11_four_7, b_X11_four_7, s_X11_four_39, b_X11_four_39, g_X11_76, g_X11_218, p_X11_218, T_105]
  refine ⟨by omega, by omega, ?_⟩
  refine hR 40 b_X11_four_3 3 _ _ _ o_X11_four_3 ?_
  simp only [v_opt_n, v_opt_s, v_nil, v_iconst, v_bipush, v_sipush, v_lconst0, v_lconst1, v_ldc, v_ldcw, v_ldc2, v_iload0, v_iload1, v_iload2, v_iload3, v_iload, v_lload0, v_lload1, v_lload2, v_lload3, v_lload, v_aload0, v_aload1, v_aload2, v_aload3, v_aload, v_istore0, v_istore1, v_istore2, v_istore3, v_istore, v_lstore0, v_lstore1, v_lstore2, v_lstore3, v_lstore, v_astore0, v_astore1, v_astore2, v_astore3, v_astore, v_iinc, v_iadd, v_isub, v_imul, v_iand, v_ior, v_ixor, v_ishl, v_ishr, v_iushr, v_ineg, v_idiv, v_irem, v_ladd, v_lsub, v_lmul, v_lcmp, v_i2l, v_l2i, v_i2c, v_dup, v_dup2, v_if_eq, v_if_ne, v_if_lt, v_if_ge, v_if_gt, v_if_le, v_ic_eq, v_ic_ne, v_ic_lt, v_ic_ge, v_ic_gt, v_ic_le, v_goto, v_tsw, v_lsw, v_ireturn, v_areturn, v_return, v_iaload, v_laload, v_baload, v_caload, v_aaload, v_iastore, v_lastore, v_bastore, v_castore, v_alen, v_invvi, v_invst, v_invsp, e_int, e_lng, e_ref, e_lg0, e_lg1, e_lg2, e_lg3, e_lg4, e_lg5, e_lg6, e_lg7, e_lg8, e_lg9, e_lg10, e_lg11, e_lg12, e_lg13, e_clrI, e_clrJ, e_clrP, e_clrN, e_s0, e_s1, e_s2, e_s3, e_s4, e_s5, e_s6, e_s7, e_s8, e_s9, e_s10, e_s11, e_s12, e_s13, e_t0, e_t1, e_t2, e_t3, e_t4, e_t5, e_t6, e_t7, e_t8, e_t9, e_t10, e_t11, e_t12, e_t13, e_fd, e_kk, e_k0, e_k1, e_k2, e_k3, e_k4, e_k5, e_k6, e_k7, e_k8, e_k9, e_sv0, e_sv1, e_sv2, e_sv3, e_svc, e_pf0, e_pf1, e_pf2, e_pf3, e_ar, e_aa, e_al, e_sw1, e_sw2, e_ct0, e_ct1, e_ct2, e_cat0, e_cat1, e_rk0, e_rk1, e_rk2, e_inv0, e_inv1, e_inv2, e_inv3, e_inv4, e_inv5, e_inv6, e_o0, e_o1, e_cl, e_cle, e_cg, e_cge, e_ce, e_cr1, e_cr2, e_r, e_R, e_up, Int.cast_ofNat_Int, u_app, false_and, and_false, e_b0, e_b1, e_bn, e_bl, e_bu, Int.reduceLE, Int.reduceLT, Int.reduceEq, Int.reduceNeg, Int.reduceAdd, Int.reduceSub, Int.reduceMul, Nat.reduceLeDiff, Nat.reduceLT, Nat.reduceAdd, Nat.reduceEqDiff, true_and, and_true, true_or, or_true, false_or, or_false, forall_const, not_true_eq_false, not_false_eq_true, true_implies, false_implies, implies_true, and_self, zero_ne_one, one_ne_zero, eq_self, reduceIte, s_X11_four_0, b_X11_four_0, s_X11_four_3, b_X11_four_3, s_X11_four_7, b_X11_four_7, s_X11_four_39, b_X11_four_39, g_X11_76, g_X11_218, p_X11_218, T_105]
  refine ⟨by omega, by omega, ?_⟩
  refine hR 40 b_X11_four_3 3 _ _ _ o_X11_four_3 ?_
  simp only [v_opt_n, v_opt_s, v_nil, v_iconst, v_bipush, v_sipush, v_lconst0, v_lconst1, v_ldc, v_ldcw, v_ldc2, v_iload0, v_iload1, v_iload2, v_iload3, v_iload, v_lload0, v_lload1, v_lload2, v_lload3, v_lload, v_aload0, v_aload1, v_aload2, v_aload3, v_aload, v_istore0, v_istore1, v_istore2, v_istore3, v_istore, v_lstore0, v_lstore1, v_lstore2, v_lstore3, v_lstore, v_astore0, v_astore1, v_astore2, v_astore3, v_astore, v_iinc, v_iadd, v_isub, v_imul, v_iand, v_ior, v_ixor, v_ishl, v_ishr, v_iushr, v_ineg, v_idiv, v_irem, v_ladd, v_lsub, v_lmul, v_lcmp, v_i2l, v_l2i, v_i2c, v_dup, v_dup2, v_if_eq, v_if_ne, v_if_lt, v_if_ge, v_if_gt, v_if_le, v_ic_eq, v_ic_ne, v_ic_lt, v_ic_ge, v_ic_gt, v_ic_le, v_goto, v_tsw, v_lsw, v_ireturn, v_areturn, v_return, v_iaload, v_laload, v_baload, v_caload, v_aaload, v_iastore, v_lastore, v_bastore, v_castore, v_alen, v_invvi, v_invst, v_invsp, e_int, e_lng, e_ref, e_lg0, e_lg1, e_lg2, e_lg3, e_lg4, e_lg5, e_lg6, e_lg7, e_lg8, e_lg9, e_lg10, e_lg11, e_lg12, e_lg13, e_clrI, e_clrJ, e_clrP, e_clrN, e_s0, e_s1, e_s2, e_s3, e_s4, e_s5, e_s6, e_s7, e_s8, e_s9, e_s10, e_s11, e_s12, e_s13, e_t0, e_t1, e_t2, e_t3, e_t4, e_t5, e_t6, e_t7, e_t8, e_t9, e_t10, e_t11, e_t12, e_t13, e_fd, e_kk, e_k0, e_k1, e_k2, e_k3, e_k4, e_k5, e_k6, e_k7, e_k8, e_k9, e_sv0, e_sv1, e_sv2, e_sv3, e_svc, e_pf0, e_pf1, e_pf2, e_pf3, e_ar, e_aa, e_al, e_sw1, e_sw2, e_ct0, e_ct1, e_ct2, e_cat0, e_cat1, e_rk0, e_rk1, e_rk2, e_inv0, e_inv1, e_inv2, e_inv3, e_inv4, e_inv5, e_inv6, e_o0, e_o1, e_cl, e_cle, e_cg, e_cge, e_ce, e_cr1, e_cr2, e_r, e_R, e_up, Int.cast_ofNat_Int, u_app, false_and, and_false, e_b0, e_b1, e_bn, e_bl, e_bu, Int.reduceLE, Int.reduceLT, Int.reduceEq, Int.reduceNeg, Int.reduceAdd, Int.reduceSub, Int.reduceMul, Nat.reduceLeDiff, Nat.reduceLT, Nat.reduceAdd, Nat.reduceEqDiff, true_and, and_true, true_or, or_true, false_or, or_false, forall_const, not_true_eq_false, not_false_eq_true, true_implies, false_implies, implies_true, and_self, zero_ne_one, one_ne_zero, eq_self, reduceIte, s_X11_four_0, b_X11_four_0, s_X11_four_3, b_X11_four_3, s_X11_four_7, b_X11_four_7, s_X11_four_39, b_X11_four_39, g_X11_76, g_X11_218, p_X11_218, T_105]
  refine ⟨by omega, by omega, ?_⟩
  refine hR 40 b_X11_four_3 3 _ _ _ o_X11_four_3 ?_
  simp only [v_opt_n, v_opt_s, v_nil, v_iconst, v_bipush, v_sipush, v_lconst0, v_lconst1, v_ldc, v_ldcw, v_ldc2, v_iload0, v_iload1, v_iload2, v_iload3, v_iload, v_lload0, v_lload1, v_lload2, v_lload3, v_lload, v_aload0, v_aload1, v_aload2, v_aload3, v_aload, v_istore0, v_istore1, v_istore2, v_istore3, v_istore, v_lstore0, v_lstore1, v_lstore2, v_lstore3, v_lstore, v_astore0, v_astore1, v_astore2, v_astore3, v_astore, v_iinc, v_iadd, v_isub, v_imul, v_iand, v_ior, v_ixor, v_ishl, v_ishr, v_iushr, v_ineg, v_idiv, v_irem, v_ladd, v_lsub, v_lmul, v_lcmp, v_i2l, v_l2i, v_i2c, v_dup, v_dup2, v_if_eq, v_if_ne, v_if_lt, v_if_ge, v_if_gt, v_if_le, v_ic_eq, v_ic_ne, v_ic_lt, v_ic_ge, v_ic_gt, v_ic_le, v_goto, v_tsw, v_lsw, v_ireturn, v_areturn, v_return, v_iaload, v_laload, v_baload, v_caload, v_aaload, v_iastore, v_lastore, v_bastore, v_castore, v_alen, v_invvi, v_invst, v_invsp, e_int, e_lng, e_ref, e_lg0, e_lg1, e_lg2, e_lg3, e_lg4, e_lg5, e_lg6, e_lg7, e_lg8, e_lg9, e_lg10, e_lg11, e_lg12, e_lg13, e_clrI, e_clrJ, e_clrP, e_clrN, e_s0, e_s1, e_s2, e_s3, e_s4, e_s5, e_s6, e_s7, e_s8, e_s9, e_s10, e_s11, e_s12, e_s13, e_t0, e_t1, e_t2, e_t3, e_t4, e_t5, e_t6, e_t7, e_t8, e_t9, e_t10, e_t11, e_t12, e_t13, e_fd, e_kk, e_k0, e_k1, e_k2, e_k3, e_k4, e_k5, e_k6, e_k7, e_k8, e_k9, e_sv0, e_sv1, e_sv2, e_sv3, e_svc, e_pf0, e_pf1, e_pf2, e_pf3, e_ar, e_aa, e_al, e_sw1, e_sw2, e_ct0, e_ct1, e_ct2, e_cat0, e_cat1, e_rk0, e_rk1, e_rk2, e_inv0, e_inv1, e_inv2, e_inv3, e_inv4, e_inv5, e_inv6, e_o0, e_o1, e_cl, e_cle, e_cg, e_cge, e_ce, e_cr1, e_cr2, e_r, e_R, e_up, Int.cast_ofNat_Int, u_app, false_and, and_false, e_b0, e_b1, e_bn, e_bl, e_bu, Int.reduceLE, Int.reduceLT, Int.reduceEq, Int.reduceNeg, Int.reduceAdd, Int.reduceSub, Int.reduceMul, Nat.reduceLeDiff, Nat.reduceLT, Nat.reduceAdd, Nat.reduceEqDiff, true_and, and_true, true_or, or_true, false_or, or_false, forall_const, not_true_eq_false, not_false_eq_true, true_implies, false_implies, implies_true, and_self, zero_ne_one, one_ne_zero, eq_self, reduceIte, s_X11_four_0, b_X11_four_0, s_X11_four_3, b_X11_four_3, s_X11_four_7, b_X11_four_7, s_X11_four_39, b_X11_four_39, g_X11_76, g_X11_218, p_X11_218]
  unfold m_four m_byte at hk
  have e : ∀ (ν : QM) (a1 a2 a3 b0 b1 b2 b3 t1 t2 t3 t4 : Int), q_up (q_up (q_up (q_up (q_up (q_up (q_up (q_up ν 105 a1 b0) 85 31 t1) 105 a2 b1) 85 31 t2) 105 a3 b2) 85 31 t3) 105 (a3 + 1) b3) 85 31 t4 = q_up (q_up (q_up (q_up (q_up ν 105 a1 b0) 105 a2 b1) 105 a3 b2) 105 (a3 + 1) b3) 85 31 t4 := by
    intro ν a1 a2 a3 b0 b1 b2 b3 t1 t2 t3 t4
    rw [u_comm (a := 85) (b := 105) (by decide), u_twice, u_comm (a := 85) (b := 105) (by decide), u_comm (a := 85) (b := 105) (by decide), u_twice, u_comm (a := 85) (b := 105) (by decide), u_comm (a := 85) (b := 105) (by decide), u_comm (a := 85) (b := 105) (by decide), u_twice]
  rw [show μ 85 31 + 3 = μ 85 31 + 2 + 1 by omega, show μ 85 31 + 2 = μ 85 31 + 1 + 1 by omega, show μ 85 31 + 4 = μ 85 31 + 1 + 1 + 1 + 1 by omega] at hk
  rw [e]
  exact hk
set_option maxRecDepth 100000 in
theorem C_X11_four {l : Launch} {ad : Int → Nat} {D : va_G} {cy : Nat → ClassId} {Z : State → Prop} (hZ : q_Zg ad Z) : q_Ct l q_T q_N ad D cy Z yX11_four cX11_four 3 none rm_X11_four sp_X11_four := by
  obtain ⟨hf, hg, hld⟩ := q_chkS k_X11_four
  refine q_met (rk := 4) q_wokT (by decide) rfl hf hg hld rfl (q_skS L_X11_four o_X11_four) ?_ ?_ ?_ ?_ B_X11_four
  · intro i hi; exact absurd hi List.not_mem_nil
  · intro i hi; exact absurd hi List.not_mem_nil
  · intro i hi; exact absurd hi List.not_mem_nil
  · intro i hi; exact absurd hi List.not_mem_nil
theorem rv_X11_four : q_rcv q_T yX11_four.cls sp_X11_four := by
  intro ra μ K h
  obtain ⟨this, v, rfl, h⟩ := sp_X11_four_i h
  obtain rfl := h.1
  exact ⟨[.inl v], 85, 11, _, _, rfl, T_85, rfl, rfl⟩
theorem cm_X11_four : Cond.code yX11_four cX11_four 3 none ∈ q_tb := by decide +kernel
def sp_X11_size : QP := fun ra μ K => match ra with
  | [.inl h9, .inl w, .inr (.inr this)] => this = 85 ∧ (q_r w ∧ q_r h9) ∧ (if (2 ≤ w ∧ w ≤ 12) ∧ 2 ≤ h9 ∧ h9 ≤ 12 then K (some (.inl 0)) (q_up (q_fill (q_fill (q_fill (q_up (q_up (q_up μ 85 0 0) 85 2 w) 85 3 h9) 86 0 576 (-2000000000)) 88 0 3 0) 94 0 90 0) 85 1 0) else K (some (.inl (-1))) (q_up (q_up μ 85 0 0) 85 1 (-1)))
  | _ => False
theorem sp_X11_size_e (this w h9 : Int) (μ : QM) (K : Option QV → QM → Prop) : sp_X11_size [.inl h9, .inl w, .inr (.inr this)] μ K = (this = 85 ∧ (q_r w ∧ q_r h9) ∧ (if (2 ≤ w ∧ w ≤ 12) ∧ 2 ≤ h9 ∧ h9 ≤ 12 then K (some (.inl 0)) (q_up (q_fill (q_fill (q_fill (q_up (q_up (q_up μ 85 0 0) 85 2 w) 85 3 h9) 86 0 576 (-2000000000)) 88 0 3 0) 94 0 90 0) 85 1 0) else K (some (.inl (-1))) (q_up (q_up μ 85 0 0) 85 1 (-1)))) := propext Iff.rfl
theorem sp_X11_size_i {ra : List QV} {μ : QM} {K : Option QV → QM → Prop} (h : sp_X11_size ra μ K) : ∃ this w h9 : Int, ra = [.inl h9, .inl w, .inr (.inr this)] ∧ (this = 85 ∧ (q_r w ∧ q_r h9) ∧ (if (2 ≤ w ∧ w ≤ 12) ∧ 2 ≤ h9 ∧ h9 ≤ 12 then K (some (.inl 0)) (q_up (q_fill (q_fill (q_fill (q_up (q_up (q_up μ 85 0 0) 85 2 w) 85 3 h9) 86 0 576 (-2000000000)) 88 0 3 0) 94 0 90 0) 85 1 0) else K (some (.inl (-1))) (q_up (q_up μ 85 0 0) 85 1 (-1)))) := by
  unfold sp_X11_size at h
  split at h
  · exact ⟨_, _, _, rfl, h⟩
  · exact h.elim
def rm_X11_size : Room := { frames := 2, cells := 0, slots := 0, locals := 42 }
def G_X11_size : Nat → Nat × QP := fun i => match i with
  | 103 => (2, sp_X11_answer)
  | 82 => (1, sp_X11_clearSheets)
  | 95 => (3, sp_X11_in)
  | _ => (0, fun _ _ _ => False)
theorem G_X11_size_103 : G_X11_size 103 = (2, sp_X11_answer) := id rfl
theorem G_X11_size_82 : G_X11_size 82 = (1, sp_X11_clearSheets) := id rfl
theorem G_X11_size_95 : G_X11_size 95 = (3, sp_X11_in) := id rfl
set_option maxRecDepth 100000 in
set_option maxHeartbeats 4000000 in
theorem B_X11_size : q_Body cX11_size 3 u_X11_size fl_X11 ld_X11 G_X11_size q_T 0 s_X11_size sp_X11_size := by
  intro S Rt hR ra μ h
  obtain ⟨this, w, h9, rfl, h⟩ := sp_X11_size_i h
  refine ⟨by simp [q_sl, q_ct], ?_⟩
  show S 0 [some (.inr (.inr this)), some (.inl w), some (.inl h9)] [] μ
  obtain ⟨rfl, h1, hk⟩ := h
  refine hR 80 [] 0 _ _ _ rfl ?_
  simp only [v_opt_n, v_opt_s, v_nil, v_iconst, v_bipush, v_sipush, v_lconst0, v_lconst1, v_ldc, v_ldcw, v_ldc2, v_iload0, v_iload1, v_iload2, v_iload3, v_iload, v_lload0, v_lload1, v_lload2, v_lload3, v_lload, v_aload0, v_aload1, v_aload2, v_aload3, v_aload, v_istore0, v_istore1, v_istore2, v_istore3, v_istore, v_lstore0, v_lstore1, v_lstore2, v_lstore3, v_lstore, v_astore0, v_astore1, v_astore2, v_astore3, v_astore, v_iinc, v_iadd, v_isub, v_imul, v_iand, v_ior, v_ixor, v_ishl, v_ishr, v_iushr, v_ineg, v_idiv, v_irem, v_ladd, v_lsub, v_lmul, v_lcmp, v_i2l, v_l2i, v_i2c, v_dup, v_dup2, v_if_eq, v_if_ne, v_if_lt, v_if_ge, v_if_gt, v_if_le, v_ic_eq, v_ic_ne, v_ic_lt, v_ic_ge, v_ic_gt, v_ic_le, v_goto, v_tsw, v_lsw, v_ireturn, v_areturn, v_return, v_iaload, v_laload, v_baload, v_caload, v_aaload, v_iastore, v_lastore, v_bastore, v_castore, v_alen, v_invvi, v_invst, v_invsp, e_int, e_lng, e_ref, e_lg0, e_lg1, e_lg2, e_lg3, e_lg4, e_lg5, e_lg6, e_lg7, e_lg8, e_lg9, e_lg10, e_lg11, e_lg12, e_lg13, e_clrI, e_clrJ, e_clrP, e_clrN, e_s0, e_s1, e_s2, e_s3, e_s4, e_s5, e_s6, e_s7, e_s8, e_s9, e_s10, e_s11, e_s12, e_s13, e_t0, e_t1, e_t2, e_t3, e_t4, e_t5, e_t6, e_t7, e_t8, e_t9, e_t10, e_t11, e_t12, e_t13, e_fd, e_kk, e_k0, e_k1, e_k2, e_k3, e_k4, e_k5, e_k6, e_k7, e_k8, e_k9, e_sv0, e_sv1, e_sv2, e_sv3, e_svc, e_pf0, e_pf1, e_pf2, e_pf3, e_ar, e_aa, e_al, e_sw1, e_sw2, e_ct0, e_ct1, e_ct2, e_cat0, e_cat1, e_rk0, e_rk1, e_rk2, e_inv0, e_inv1, e_inv2, e_inv3, e_inv4, e_inv5, e_inv6, e_o0, e_o1, e_cl, e_cle, e_cg, e_cge, e_ce, e_cr1, e_cr2, e_r, e_R, e_up, Int.cast_ofNat_Int, u_app, false_and, and_false, e_b0, e_b1, e_bn, e_bl, e_bu, Int.reduceLE, Int.reduceLT, Int.reduceEq, Int.reduceNeg, Int.reduceAdd, Int.reduceSub, Int.reduceMul, Nat.reduceLeDiff, Nat.reduceLT, Nat.reduceAdd, Nat.reduceEqDiff, true_and, and_true, true_or, or_true, false_or, or_false, forall_const, not_true_eq_false, not_false_eq_true, true_implies, false_implies, implies_true, and_self, zero_ne_one, one_ne_zero, eq_self, reduceIte, s_X11_size_0, b_X11_size_0, s_X11_size_19, b_X11_size_19, s_X11_size_33, b_X11_size_33, s_X11_size_39, b_X11_size_39, g_X11_85, p_X11_85, g_X11_7, p_X11_7, g_X11_13, p_X11_13, ld_X11_99, ld_X11_101, G_X11_size_103, sp_X11_answer_e, G_X11_size_82, sp_X11_clearSheets_e, G_X11_size_95, sp_X11_in_e]
  split at hk <;> (repeat' (first | assumption | (refine And.intro ?_ ?_) | (intro _))) <;> first | omega | (exfalso; omega)
set_option maxRecDepth 100000 in
theorem C_X11_size {l : Launch} {ad : Int → Nat} {D : va_G} {cy : Nat → ClassId} {Z : State → Prop} (hZ : q_Zg ad Z) : q_Ct l q_T q_N ad D cy Z yX11_size cX11_size 3 (some .int) rm_X11_size sp_X11_size := by
  obtain ⟨hf, hg, hld⟩ := q_chkS k_X11_size
  refine q_met (rk := 0) q_wokT (by decide) rfl hf hg hld rfl (q_skS L_X11_size o_X11_size) ?_ ?_ ?_ ?_ B_X11_size
  · intro i hi; exact absurd hi List.not_mem_nil
  · intro i hi
    have hi : i = 103 ∨ i = 82 := by simpa [u_X11_size] using hi
    rcases hi with rfl | rfl
    · exact q_crV hZ.1 (C_X11_answer hZ) rv_X11_answer cm_X11_answer (by decide +kernel) (by decide +kernel) (by decide +kernel) (by decide +kernel) (by decide +kernel) ⟨rfl, rfl⟩ (by decide)
    · exact q_crV hZ.1 (C_X11_clearSheets hZ) rv_X11_clearSheets cm_X11_clearSheets (by decide +kernel) (by decide +kernel) (by decide +kernel) (by decide +kernel) (by decide +kernel) ⟨rfl, rfl⟩ (by decide)
  · intro i hi
    have hi : i = 95 := by simpa [u_X11_size] using hi
    rcases hi with rfl
    · exact q_crS hZ.1 (C_X11_in hZ) cm_X11_in (by decide +kernel) (by decide +kernel) (by decide +kernel) (by decide +kernel) ⟨rfl, rfl⟩ (by decide)
  · intro i hi; exact absurd hi List.not_mem_nil
theorem rv_X11_size : q_rcv q_T yX11_size.cls sp_X11_size := by
  intro ra μ K h
  obtain ⟨this, w, h9, rfl, h⟩ := sp_X11_size_i h
  obtain rfl := h.1
  exact ⟨[.inl h9, .inl w], 85, 11, _, _, rfl, T_85, rfl, rfl⟩
theorem cm_X11_size : Cond.code yX11_size cX11_size 3 (some .int) ∈ q_tb := by decide +kernel
def sp_X11_tell : QP := fun ra μ K => match ra with
  | [.inl value, .inl y, .inl x, .inl sheet, .inr (.inr this)] => this = 85 ∧ (q_r sheet ∧ q_r x ∧ q_r y ∧ q_r value) ∧ m_dim (μ 85 2) (μ 85 3) ∧ (0 ≤ μ 85 7 ∧ μ 85 7 ≤ 10) ∧ m_rok (μ 89) (μ 91) (μ 93) (fun b k => μ 92 (3 * b + k)) (μ 85 7) ∧ (∀ b t : Int, 0 ≤ b → b < μ 85 7 → 0 ≤ t → t < 9 → μ 94 (9 * b + t) = 0 ∨ (μ 94 (9 * b + t) = 1 ∧ m_tl (μ 85 2) (μ 85 3) t)) ∧ (if ¬ (0 ≤ sheet ∧ sheet ≤ 3) ∨ (¬ value = -2000000000 ∧ ¬ (-1000000 ≤ value ∧ value ≤ 1000000)) then K (some (.inl (-1))) (q_up (q_up μ 85 0 0) 85 1 (-1)) else if ¬ (0 ≤ x ∧ x < μ 85 2 ∧ 0 ≤ y ∧ y < μ 85 3) then K (some (.inl (-2))) (q_up (q_up μ 85 0 0) 85 1 (-2)) else ∀ g : Int → Int, K (some (.inl 0)) (q_up (q_blk (q_blk (q_up (q_up μ 85 0 0) 86 (144 * sheet + 12 * y + x) value) 95 10 g) 94 90 (m_pf μ (μ 85 7) sheet (q_shl 1 (y / 4 * 3 + x / 4)) (9 * μ 85 7))) 85 1 0))
  | _ => False
theorem sp_X11_tell_e (this sheet x y value : Int) (μ : QM) (K : Option QV → QM → Prop) : sp_X11_tell [.inl value, .inl y, .inl x, .inl sheet, .inr (.inr this)] μ K = (this = 85 ∧ (q_r sheet ∧ q_r x ∧ q_r y ∧ q_r value) ∧ m_dim (μ 85 2) (μ 85 3) ∧ (0 ≤ μ 85 7 ∧ μ 85 7 ≤ 10) ∧ m_rok (μ 89) (μ 91) (μ 93) (fun b k => μ 92 (3 * b + k)) (μ 85 7) ∧ (∀ b t : Int, 0 ≤ b → b < μ 85 7 → 0 ≤ t → t < 9 → μ 94 (9 * b + t) = 0 ∨ (μ 94 (9 * b + t) = 1 ∧ m_tl (μ 85 2) (μ 85 3) t)) ∧ (if ¬ (0 ≤ sheet ∧ sheet ≤ 3) ∨ (¬ value = -2000000000 ∧ ¬ (-1000000 ≤ value ∧ value ≤ 1000000)) then K (some (.inl (-1))) (q_up (q_up μ 85 0 0) 85 1 (-1)) else if ¬ (0 ≤ x ∧ x < μ 85 2 ∧ 0 ≤ y ∧ y < μ 85 3) then K (some (.inl (-2))) (q_up (q_up μ 85 0 0) 85 1 (-2)) else ∀ g : Int → Int, K (some (.inl 0)) (q_up (q_blk (q_blk (q_up (q_up μ 85 0 0) 86 (144 * sheet + 12 * y + x) value) 95 10 g) 94 90 (m_pf μ (μ 85 7) sheet (q_shl 1 (y / 4 * 3 + x / 4)) (9 * μ 85 7))) 85 1 0))) := propext Iff.rfl
theorem sp_X11_tell_i {ra : List QV} {μ : QM} {K : Option QV → QM → Prop} (h : sp_X11_tell ra μ K) : ∃ this sheet x y value : Int, ra = [.inl value, .inl y, .inl x, .inl sheet, .inr (.inr this)] ∧ (this = 85 ∧ (q_r sheet ∧ q_r x ∧ q_r y ∧ q_r value) ∧ m_dim (μ 85 2) (μ 85 3) ∧ (0 ≤ μ 85 7 ∧ μ 85 7 ≤ 10) ∧ m_rok (μ 89) (μ 91) (μ 93) (fun b k => μ 92 (3 * b + k)) (μ 85 7) ∧ (∀ b t : Int, 0 ≤ b → b < μ 85 7 → 0 ≤ t → t < 9 → μ 94 (9 * b + t) = 0 ∨ (μ 94 (9 * b + t) = 1 ∧ m_tl (μ 85 2) (μ 85 3) t)) ∧ (if ¬ (0 ≤ sheet ∧ sheet ≤ 3) ∨ (¬ value = -2000000000 ∧ ¬ (-1000000 ≤ value ∧ value ≤ 1000000)) then K (some (.inl (-1))) (q_up (q_up μ 85 0 0) 85 1 (-1)) else if ¬ (0 ≤ x ∧ x < μ 85 2 ∧ 0 ≤ y ∧ y < μ 85 3) then K (some (.inl (-2))) (q_up (q_up μ 85 0 0) 85 1 (-2)) else ∀ g : Int → Int, K (some (.inl 0)) (q_up (q_blk (q_blk (q_up (q_up μ 85 0 0) 86 (144 * sheet + 12 * y + x) value) 95 10 g) 94 90 (m_pf μ (μ 85 7) sheet (q_shl 1 (y / 4 * 3 + x / 4)) (9 * μ 85 7))) 85 1 0))) := by
  unfold sp_X11_tell at h
  split at h
  · exact ⟨_, _, _, _, _, rfl, h⟩
  · exact h.elim
def rm_X11_tell : Room := { frames := 7, cells := 0, slots := 0, locals := 173 }
def G_X11_tell : Nat → Nat × QP := fun i => match i with
  | 103 => (2, sp_X11_answer)
  | 113 => (3, sp_X11_isCell)
  | 117 => (5, sp_X11_put)
  | 95 => (3, sp_X11_in)
  | _ => (0, fun _ _ _ => False)
theorem G_X11_tell_103 : G_X11_tell 103 = (2, sp_X11_answer) := id rfl
theorem G_X11_tell_113 : G_X11_tell 113 = (3, sp_X11_isCell) := id rfl
theorem G_X11_tell_117 : G_X11_tell 117 = (5, sp_X11_put) := id rfl
theorem G_X11_tell_95 : G_X11_tell 95 = (3, sp_X11_in) := id rfl
set_option maxRecDepth 100000 in
set_option maxHeartbeats 4000000 in
theorem B_X11_tell : q_Body cX11_tell 5 u_X11_tell fl_X11 ld_X11 G_X11_tell q_T 0 s_X11_tell sp_X11_tell := by
  intro S Rt hR ra μ h
  obtain ⟨this, sheet, x, y, value, rfl, h⟩ := sp_X11_tell_i h
  refine ⟨by simp [q_sl, q_ct], ?_⟩
  show S 0 [some (.inr (.inr this)), some (.inl sheet), some (.inl x), some (.inl y), some (.inl value)] [] μ
  obtain ⟨rfl, h1, h2, h3, h4, h5, hk⟩ := h
  have e89 : q_up μ 85 0 0 89 = μ 89 := funext fun j => u_na (by decide)
  have e91 : q_up μ 85 0 0 91 = μ 91 := funext fun j => u_na (by decide)
  have e93 : q_up μ 85 0 0 93 = μ 93 := funext fun j => u_na (by decide)
  have em : m_pf (q_up μ 85 0 0) = m_pf μ := by
    funext n s b i j
    unfold m_pf
    simp only [u_app, e89, e91, e93, Int.reduceEq, false_and, and_false, reduceIte]
  refine hR 80 [] 0 _ _ _ rfl ?_
  simp only [v_opt_n, v_opt_s, v_nil, v_iconst, v_bipush, v_sipush, v_lconst0, v_lconst1, v_ldc, v_ldcw, v_ldc2, v_iload0, v_iload1, v_iload2, v_iload3, v_iload, v_lload0, v_lload1, v_lload2, v_lload3, v_lload, v_aload0, v_aload1, v_aload2, v_aload3, v_aload, v_istore0, v_istore1, v_istore2, v_istore3, v_istore, v_lstore0, v_lstore1, v_lstore2, v_lstore3, v_lstore, v_astore0, v_astore1, v_astore2, v_astore3, v_astore, v_iinc, v_iadd, v_isub, v_imul, v_iand, v_ior, v_ixor, v_ishl, v_ishr, v_iushr, v_ineg, v_idiv, v_irem, v_ladd, v_lsub, v_lmul, v_lcmp, v_i2l, v_l2i, v_i2c, v_dup, v_dup2, v_if_eq, v_if_ne, v_if_lt, v_if_ge, v_if_gt, v_if_le, v_ic_eq, v_ic_ne, v_ic_lt, v_ic_ge, v_ic_gt, v_ic_le, v_goto, v_tsw, v_lsw, v_ireturn, v_areturn, v_return, v_iaload, v_laload, v_baload, v_caload, v_aaload, v_iastore, v_lastore, v_bastore, v_castore, v_alen, v_invvi, v_invst, v_invsp, e_int, e_lng, e_ref, e_lg0, e_lg1, e_lg2, e_lg3, e_lg4, e_lg5, e_lg6, e_lg7, e_lg8, e_lg9, e_lg10, e_lg11, e_lg12, e_lg13, e_clrI, e_clrJ, e_clrP, e_clrN, e_s0, e_s1, e_s2, e_s3, e_s4, e_s5, e_s6, e_s7, e_s8, e_s9, e_s10, e_s11, e_s12, e_s13, e_t0, e_t1, e_t2, e_t3, e_t4, e_t5, e_t6, e_t7, e_t8, e_t9, e_t10, e_t11, e_t12, e_t13, e_fd, e_kk, e_k0, e_k1, e_k2, e_k3, e_k4, e_k5, e_k6, e_k7, e_k8, e_k9, e_sv0, e_sv1, e_sv2, e_sv3, e_svc, e_pf0, e_pf1, e_pf2, e_pf3, e_ar, e_aa, e_al, e_sw1, e_sw2, e_ct0, e_ct1, e_ct2, e_cat0, e_cat1, e_rk0, e_rk1, e_rk2, e_inv0, e_inv1, e_inv2, e_inv3, e_inv4, e_inv5, e_inv6, e_o0, e_o1, e_cl, e_cle, e_cg, e_cge, e_ce, e_cr1, e_cr2, e_r, e_R, e_up, Int.cast_ofNat_Int, u_app, false_and, and_false, e_b0, e_b1, e_bn, e_bl, e_bu, Int.reduceLE, Int.reduceLT, Int.reduceEq, Int.reduceNeg, Int.reduceAdd, Int.reduceSub, Int.reduceMul, Nat.reduceLeDiff, Nat.reduceLT, Nat.reduceAdd, Nat.reduceEqDiff, true_and, and_true, true_or, or_true, false_or, or_false, forall_const, not_true_eq_false, not_false_eq_true, true_implies, false_implies, implies_true, and_self, zero_ne_one, one_ne_zero, eq_self, reduceIte, s_X11_tell_0, b_X11_tell_0, s_X11_tell_17, b_X11_tell_17, s_X11_tell_24, b_X11_tell_24, s_X11_tell_39, b_X11_tell_39, s_X11_tell_45, b_X11_tell_45, s_X11_tell_54, b_X11_tell_54, s_X11_tell_61, b_X11_tell_61, g_X11_85, p_X11_85, ld_X11_107, ld_X11_91, ld_X11_109, ld_X11_111, G_X11_tell_103, sp_X11_answer_e, G_X11_tell_113, sp_X11_isCell_e, G_X11_tell_117, sp_X11_put_e, G_X11_tell_95, sp_X11_in_e, e89, e91, e93, em]
  split at hk
  · (repeat' (first | assumption | (refine And.intro ?_ ?_) | (intro _))) <;> first | omega | (exfalso; omega)
  · split at hk
    · (repeat' (first | assumption | (refine And.intro ?_ ?_) | (intro _))) <;> first | omega | (exfalso; omega)
    · (repeat' (first | assumption | exact hk _ | (refine And.intro ?_ ?_) | (intro _))) <;> first | omega | (exfalso; omega)
set_option maxRecDepth 100000 in
theorem C_X11_tell {l : Launch} {ad : Int → Nat} {D : va_G} {cy : Nat → ClassId} {Z : State → Prop} (hZ : q_Zg ad Z) : q_Ct l q_T q_N ad D cy Z yX11_tell cX11_tell 5 (some .int) rm_X11_tell sp_X11_tell := by
  obtain ⟨hf, hg, hld⟩ := q_chkS k_X11_tell
  refine q_met (rk := 0) q_wokT (by decide) rfl hf hg hld rfl (q_skS L_X11_tell o_X11_tell) ?_ ?_ ?_ ?_ B_X11_tell
  · intro i hi; exact absurd hi List.not_mem_nil
  · intro i hi
    have hi : i = 103 ∨ i = 113 ∨ i = 117 := by simpa [u_X11_tell] using hi
    rcases hi with rfl | rfl | rfl
    · exact q_crV hZ.1 (C_X11_answer hZ) rv_X11_answer cm_X11_answer (by decide +kernel) (by decide +kernel) (by decide +kernel) (by decide +kernel) (by decide +kernel) ⟨rfl, rfl⟩ (by decide)
    · exact q_crV hZ.1 (C_X11_isCell hZ) rv_X11_isCell cm_X11_isCell (by decide +kernel) (by decide +kernel) (by decide +kernel) (by decide +kernel) (by decide +kernel) ⟨rfl, rfl⟩ (by decide)
    · exact q_crV hZ.1 (C_X11_put hZ) rv_X11_put cm_X11_put (by decide +kernel) (by decide +kernel) (by decide +kernel) (by decide +kernel) (by decide +kernel) ⟨rfl, rfl⟩ (by decide)
  · intro i hi
    have hi : i = 95 := by simpa [u_X11_tell] using hi
    rcases hi with rfl
    · exact q_crS hZ.1 (C_X11_in hZ) cm_X11_in (by decide +kernel) (by decide +kernel) (by decide +kernel) (by decide +kernel) ⟨rfl, rfl⟩ (by decide)
  · intro i hi; exact absurd hi List.not_mem_nil
theorem rv_X11_tell : q_rcv q_T yX11_tell.cls sp_X11_tell := by
  intro ra μ K h
  obtain ⟨this, sheet, x, y, value, rfl, h⟩ := sp_X11_tell_i h
  obtain rfl := h.1
  exact ⟨[.inl value, .inl y, .inl x, .inl sheet], 85, 11, _, _, rfl, T_85, rfl, rfl⟩
theorem cm_X11_tell : Cond.code yX11_tell cX11_tell 5 (some .int) ∈ q_tb := by decide +kernel
def sp_X11_told : QP := fun ra μ K => match ra with
  | [.inl y, .inl x, .inl sheet, .inr (.inr this)] => this = 85 ∧ (q_r sheet ∧ q_r x ∧ q_r y) ∧ m_dim (μ 85 2) (μ 85 3) ∧ K (some (.inl (if (0 ≤ sheet ∧ sheet ≤ 3) ∧ (0 ≤ x ∧ x < μ 85 2 ∧ 0 ≤ y ∧ y < μ 85 3) then μ 86 (144 * sheet + 12 * y + x) else -2000000000))) (q_up μ 85 0 0)
  | _ => False
theorem sp_X11_told_e (this sheet x y : Int) (μ : QM) (K : Option QV → QM → Prop) : sp_X11_told [.inl y, .inl x, .inl sheet, .inr (.inr this)] μ K = (this = 85 ∧ (q_r sheet ∧ q_r x ∧ q_r y) ∧ m_dim (μ 85 2) (μ 85 3) ∧ K (some (.inl (if (0 ≤ sheet ∧ sheet ≤ 3) ∧ (0 ≤ x ∧ x < μ 85 2 ∧ 0 ≤ y ∧ y < μ 85 3) then μ 86 (144 * sheet + 12 * y + x) else -2000000000))) (q_up μ 85 0 0)) := propext Iff.rfl
theorem sp_X11_told_i {ra : List QV} {μ : QM} {K : Option QV → QM → Prop} (h : sp_X11_told ra μ K) : ∃ this sheet x y : Int, ra = [.inl y, .inl x, .inl sheet, .inr (.inr this)] ∧ (this = 85 ∧ (q_r sheet ∧ q_r x ∧ q_r y) ∧ m_dim (μ 85 2) (μ 85 3) ∧ K (some (.inl (if (0 ≤ sheet ∧ sheet ≤ 3) ∧ (0 ≤ x ∧ x < μ 85 2 ∧ 0 ≤ y ∧ y < μ 85 3) then μ 86 (144 * sheet + 12 * y + x) else -2000000000))) (q_up μ 85 0 0)) := by
  unfold sp_X11_told at h
  split at h
  · exact ⟨_, _, _, _, rfl, h⟩
  · exact h.elim
def rm_X11_told : Room := { frames := 2, cells := 0, slots := 0, locals := 47 }
def G_X11_told : Nat → Nat × QP := fun i => match i with
  | 113 => (3, sp_X11_isCell)
  | 95 => (3, sp_X11_in)
  | _ => (0, fun _ _ _ => False)
theorem G_X11_told_113 : G_X11_told 113 = (3, sp_X11_isCell) := id rfl
theorem G_X11_told_95 : G_X11_told 95 = (3, sp_X11_in) := id rfl
set_option maxRecDepth 100000 in
set_option maxHeartbeats 4000000 in
theorem B_X11_told : q_Body cX11_told 4 u_X11_told fl_X11 ld_X11 G_X11_told q_T 0 s_X11_told sp_X11_told := by
  intro S Rt hR ra μ h
  obtain ⟨this, sheet, x, y, rfl, h⟩ := sp_X11_told_i h
  refine ⟨by simp [q_sl, q_ct], ?_⟩
  show S 0 [some (.inr (.inr this)), some (.inl sheet), some (.inl x), some (.inl y)] [] μ
  obtain ⟨rfl, h1, h2, hk⟩ := h
  refine hR 80 [] 0 _ _ _ rfl ?_
  simp only [v_opt_n, v_opt_s, v_nil, v_iconst, v_bipush, v_sipush, v_lconst0, v_lconst1, v_ldc, v_ldcw, v_ldc2, v_iload0, v_iload1, v_iload2, v_iload3, v_iload, v_lload0, v_lload1, v_lload2, v_lload3, v_lload, v_aload0, v_aload1, v_aload2, v_aload3, v_aload, v_istore0, v_istore1, v_istore2, v_istore3, v_istore, v_lstore0, v_lstore1, v_lstore2, v_lstore3, v_lstore, v_astore0, v_astore1, v_astore2, v_astore3, v_astore, v_iinc, v_iadd, v_isub, v_imul, v_iand, v_ior, v_ixor, v_ishl, v_ishr, v_iushr, v_ineg, v_idiv, v_irem, v_ladd, v_lsub, v_lmul, v_lcmp, v_i2l, v_l2i, v_i2c, v_dup, v_dup2, v_if_eq, v_if_ne, v_if_lt, v_if_ge, v_if_gt, v_if_le, v_ic_eq, v_ic_ne, v_ic_lt, v_ic_ge, v_ic_gt, v_ic_le, v_goto, v_tsw, v_lsw, v_ireturn, v_areturn, v_return, v_iaload, v_laload, v_baload, v_caload, v_aaload, v_iastore, v_lastore, v_bastore, v_castore, v_alen, v_invvi, v_invst, v_invsp, e_int, e_lng, e_ref, e_lg0, e_lg1, e_lg2, e_lg3, e_lg4, e_lg5, e_lg6, e_lg7, e_lg8, e_lg9, e_lg10, e_lg11, e_lg12, e_lg13, e_clrI, e_clrJ, e_clrP, e_clrN, e_s0, e_s1, e_s2, e_s3, e_s4, e_s5, e_s6, e_s7, e_s8, e_s9, e_s10, e_s11, e_s12, e_s13, e_t0, e_t1, e_t2, e_t3, e_t4, e_t5, e_t6, e_t7, e_t8, e_t9, e_t10, e_t11, e_t12, e_t13, e_fd, e_kk, e_k0, e_k1, e_k2, e_k3, e_k4, e_k5, e_k6, e_k7, e_k8, e_k9, e_sv0, e_sv1, e_sv2, e_sv3, e_svc, e_pf0, e_pf1, e_pf2, e_pf3, e_ar, e_aa, e_al, e_sw1, e_sw2, e_ct0, e_ct1, e_ct2, e_cat0, e_cat1, e_rk0, e_rk1, e_rk2, e_inv0, e_inv1, e_inv2, e_inv3, e_inv4, e_inv5, e_inv6, e_o0, e_o1, e_cl, e_cle, e_cg, e_cge, e_ce, e_cr1, e_cr2, e_r, e_R, e_up, Int.cast_ofNat_Int, u_app, false_and, and_false, e_b0, e_b1, e_bn, e_bl, e_bu, Int.reduceLE, Int.reduceLT, Int.reduceEq, Int.reduceNeg, Int.reduceAdd, Int.reduceSub, Int.reduceMul, Nat.reduceLeDiff, Nat.reduceLT, Nat.reduceAdd, Nat.reduceEqDiff, true_and, and_true, true_or, or_true, false_or, or_false, forall_const, not_true_eq_false, not_false_eq_true, true_implies, false_implies, implies_true, and_self, zero_ne_one, one_ne_zero, eq_self, reduceIte, s_X11_told_0, b_X11_told_0, s_X11_told_17, b_X11_told_17, s_X11_told_26, b_X11_told_26, s_X11_told_46, b_X11_told_46, s_X11_told_48, b_X11_told_48, g_X11_85, p_X11_85, g_X11_16, ld_X11_107, ld_X11_91, G_X11_told_113, sp_X11_isCell_e, G_X11_told_95, sp_X11_in_e, T_86]
  split at hk <;> (repeat' (first | assumption | (refine And.intro ?_ ?_) | (intro _))) <;> first | omega | (exfalso; omega)
set_option maxRecDepth 100000 in
theorem C_X11_told {l : Launch} {ad : Int → Nat} {D : va_G} {cy : Nat → ClassId} {Z : State → Prop} (hZ : q_Zg ad Z) : q_Ct l q_T q_N ad D cy Z yX11_told cX11_told 4 (some .int) rm_X11_told sp_X11_told := by
  obtain ⟨hf, hg, hld⟩ := q_chkS k_X11_told
  refine q_met (rk := 0) q_wokT (by decide) rfl hf hg hld rfl (q_skS L_X11_told o_X11_told) ?_ ?_ ?_ ?_ B_X11_told
  · intro i hi; exact absurd hi List.not_mem_nil
  · intro i hi
    have hi : i = 113 := by simpa [u_X11_told] using hi
    rcases hi with rfl
    · exact q_crV hZ.1 (C_X11_isCell hZ) rv_X11_isCell cm_X11_isCell (by decide +kernel) (by decide +kernel) (by decide +kernel) (by decide +kernel) (by decide +kernel) ⟨rfl, rfl⟩ (by decide)
  · intro i hi
    have hi : i = 95 := by simpa [u_X11_told] using hi
    rcases hi with rfl
    · exact q_crS hZ.1 (C_X11_in hZ) cm_X11_in (by decide +kernel) (by decide +kernel) (by decide +kernel) (by decide +kernel) ⟨rfl, rfl⟩ (by decide)
  · intro i hi; exact absurd hi List.not_mem_nil
theorem rv_X11_told : q_rcv q_T yX11_told.cls sp_X11_told := by
  intro ra μ K h
  obtain ⟨this, sheet, x, y, rfl, h⟩ := sp_X11_told_i h
  obtain rfl := h.1
  exact ⟨[.inl y, .inl x, .inl sheet], 85, 11, _, _, rfl, T_85, rfl, rfl⟩
theorem cm_X11_told : Cond.code yX11_told cX11_told 4 (some .int) ∈ q_tb := by decide +kernel
def sp_X11_from : QP := fun ra μ K => match ra with
  | [.inl sheet, .inl tile, .inl board, .inr (.inr this)] => this = 85 ∧ (q_r board ∧ q_r tile ∧ q_r sheet) ∧ m_dim (μ 85 2) (μ 85 3) ∧ (0 ≤ μ 85 7 ∧ μ 85 7 ≤ 10) ∧ m_rok (μ 89) (μ 91) (μ 93) (fun b k => μ 92 (3 * b + k)) (μ 85 7) ∧ (if (0 ≤ board ∧ board < μ 85 7) ∧ m_tl (μ 85 2) (μ 85 3) tile ∧ (0 ≤ sheet ∧ sheet ≤ 3) then (∀ g : Int → Int, K (some (.inl (m_from (μ 85 2) (μ 85 3) (μ 89) (μ 91) (μ 93) (fun b k => μ 92 (3 * b + k)) board tile sheet))) (q_blk (q_up μ 85 0 0) 95 10 g)) else K (some (.inl (-1))) (q_up μ 85 0 0))
  | _ => False
theorem sp_X11_from_e (this board tile sheet : Int) (μ : QM) (K : Option QV → QM → Prop) : sp_X11_from [.inl sheet, .inl tile, .inl board, .inr (.inr this)] μ K = (this = 85 ∧ (q_r board ∧ q_r tile ∧ q_r sheet) ∧ m_dim (μ 85 2) (μ 85 3) ∧ (0 ≤ μ 85 7 ∧ μ 85 7 ≤ 10) ∧ m_rok (μ 89) (μ 91) (μ 93) (fun b k => μ 92 (3 * b + k)) (μ 85 7) ∧ (if (0 ≤ board ∧ board < μ 85 7) ∧ m_tl (μ 85 2) (μ 85 3) tile ∧ (0 ≤ sheet ∧ sheet ≤ 3) then (∀ g : Int → Int, K (some (.inl (m_from (μ 85 2) (μ 85 3) (μ 89) (μ 91) (μ 93) (fun b k => μ 92 (3 * b + k)) board tile sheet))) (q_blk (q_up μ 85 0 0) 95 10 g)) else K (some (.inl (-1))) (q_up μ 85 0 0))) := propext Iff.rfl
theorem sp_X11_from_i {ra : List QV} {μ : QM} {K : Option QV → QM → Prop} (h : sp_X11_from ra μ K) : ∃ this board tile sheet : Int, ra = [.inl sheet, .inl tile, .inl board, .inr (.inr this)] ∧ (this = 85 ∧ (q_r board ∧ q_r tile ∧ q_r sheet) ∧ m_dim (μ 85 2) (μ 85 3) ∧ (0 ≤ μ 85 7 ∧ μ 85 7 ≤ 10) ∧ m_rok (μ 89) (μ 91) (μ 93) (fun b k => μ 92 (3 * b + k)) (μ 85 7) ∧ (if (0 ≤ board ∧ board < μ 85 7) ∧ m_tl (μ 85 2) (μ 85 3) tile ∧ (0 ≤ sheet ∧ sheet ≤ 3) then (∀ g : Int → Int, K (some (.inl (m_from (μ 85 2) (μ 85 3) (μ 89) (μ 91) (μ 93) (fun b k => μ 92 (3 * b + k)) board tile sheet))) (q_blk (q_up μ 85 0 0) 95 10 g)) else K (some (.inl (-1))) (q_up μ 85 0 0))) := by
  unfold sp_X11_from at h
  split at h
  · exact ⟨_, _, _, _, rfl, h⟩
  · exact h.elim
def rm_X11_from : Room := { frames := 6, cells := 0, slots := 0, locals := 146 }
def G_X11_from : Nat → Nat × QP := fun i => match i with
  | 149 => (2, sp_X11_isBoard)
  | 134 => (2, sp_X11_isTile)
  | 128 => (4, sp_X11_fromOf)
  | 95 => (3, sp_X11_in)
  | _ => (0, fun _ _ _ => False)
theorem G_X11_from_149 : G_X11_from 149 = (2, sp_X11_isBoard) := id rfl
theorem G_X11_from_134 : G_X11_from 134 = (2, sp_X11_isTile) := id rfl
theorem G_X11_from_128 : G_X11_from 128 = (4, sp_X11_fromOf) := id rfl
theorem G_X11_from_95 : G_X11_from 95 = (3, sp_X11_in) := id rfl
set_option maxRecDepth 100000 in
set_option maxHeartbeats 4000000 in
theorem B_X11_from : q_Body cX11_from 4 u_X11_from fl_X11 ld_X11 G_X11_from q_T 0 s_X11_from sp_X11_from := by
  intro S Rt hR ra μ h
  obtain ⟨this, board, tile, sheet, rfl, h⟩ := sp_X11_from_i h
  refine ⟨by simp [q_sl, q_ct], ?_⟩
  show S 0 [some (.inr (.inr this)), some (.inl board), some (.inl tile), some (.inl sheet)] [] μ
  obtain ⟨rfl, h1, h2, h3, h4, hk⟩ := h
  have e89 : q_up μ 85 0 0 89 = μ 89 := funext fun j => u_na (by decide)
  have e91 : q_up μ 85 0 0 91 = μ 91 := funext fun j => u_na (by decide)
  have e93 : q_up μ 85 0 0 93 = μ 93 := funext fun j => u_na (by decide)
  refine hR 80 [] 0 _ _ _ rfl ?_
  simp only [v_opt_n, v_opt_s, v_nil, v_iconst, v_bipush, v_sipush, v_lconst0, v_lconst1, v_ldc, v_ldcw, v_ldc2, v_iload0, v_iload1, v_iload2, v_iload3, v_iload, v_lload0, v_lload1, v_lload2, v_lload3, v_lload, v_aload0, v_aload1, v_aload2, v_aload3, v_aload, v_istore0, v_istore1, v_istore2, v_istore3, v_istore, v_lstore0, v_lstore1, v_lstore2, v_lstore3, v_lstore, v_astore0, v_astore1, v_astore2, v_astore3, v_astore, v_iinc, v_iadd, v_isub, v_imul, v_iand, v_ior, v_ixor, v_ishl, v_ishr, v_iushr, v_ineg, v_idiv, v_irem, v_ladd, v_lsub, v_lmul, v_lcmp, v_i2l, v_l2i, v_i2c, v_dup, v_dup2, v_if_eq, v_if_ne, v_if_lt, v_if_ge, v_if_gt, v_if_le, v_ic_eq, v_ic_ne, v_ic_lt, v_ic_ge, v_ic_gt, v_ic_le, v_goto, v_tsw, v_lsw, v_ireturn, v_areturn, v_return, v_iaload, v_laload, v_baload, v_caload, v_aaload, v_iastore, v_lastore, v_bastore, v_castore, v_alen, v_invvi, v_invst, v_invsp, e_int, e_lng, e_ref, e_lg0, e_lg1, e_lg2, e_lg3, e_lg4, e_lg5, e_lg6, e_lg7, e_lg8, e_lg9, e_lg10, e_lg11, e_lg12, e_lg13, e_clrI, e_clrJ, e_clrP, e_clrN, e_s0, e_s1, e_s2, e_s3, e_s4, e_s5, e_s6, e_s7, e_s8, e_s9, e_s10, e_s11, e_s12, e_s13, e_t0, e_t1, e_t2, e_t3, e_t4, e_t5, e_t6, e_t7, e_t8, e_t9, e_t10, e_t11, e_t12, e_t13, e_fd, e_kk, e_k0, e_k1, e_k2, e_k3, e_k4, e_k5, e_k6, e_k7, e_k8, e_k9, e_sv0, e_sv1, e_sv2, e_sv3, e_svc, e_pf0, e_pf1, e_pf2, e_pf3, e_ar, e_aa, e_al, e_sw1, e_sw2, e_ct0, e_ct1, e_ct2, e_cat0, e_cat1, e_rk0, e_rk1, e_rk2, e_inv0, e_inv1, e_inv2, e_inv3, e_inv4, e_inv5, e_inv6, e_o0, e_o1, e_cl, e_cle, e_cg, e_cge, e_ce, e_cr1, e_cr2, e_r, e_R, e_up, Int.cast_ofNat_Int, u_app, false_and, and_false, e_b0, e_b1, e_bn, e_bl, e_bu, Int.reduceLE, Int.reduceLT, Int.reduceEq, Int.reduceNeg, Int.reduceAdd, Int.reduceSub, Int.reduceMul, Nat.reduceLeDiff, Nat.reduceLT, Nat.reduceAdd, Nat.reduceEqDiff, true_and, and_true, true_or, or_true, false_or, or_false, forall_const, not_true_eq_false, not_false_eq_true, true_implies, false_implies, implies_true, and_self, zero_ne_one, one_ne_zero, eq_self, reduceIte, s_X11_from_0, b_X11_from_0, s_X11_from_13, b_X11_from_13, s_X11_from_21, b_X11_from_21, s_X11_from_33, b_X11_from_33, s_X11_from_43, b_X11_from_43, s_X11_from_44, b_X11_from_44, g_X11_85, p_X11_85, ld_X11_107, G_X11_from_149, sp_X11_isBoard_e, G_X11_from_134, sp_X11_isTile_e, G_X11_from_128, sp_X11_fromOf_e, G_X11_from_95, sp_X11_in_e, e89, e91, e93]
  split at hk
  · have h6 : m_rok (μ 89) (μ 91) (μ 93) (fun b k => μ 92 (3 * b + k)) (board + 1) := fun b q1 q2 => h4 b q1 (by omega)
    (repeat' (first | assumption | exact hk _ | (refine And.intro ?_ ?_) | (intro _))) <;> first | omega | (exfalso; omega)
  · (repeat' (first | assumption | (refine And.intro ?_ ?_) | (intro _))) <;> first | omega | (exfalso; omega)
set_option maxRecDepth 100000 in
theorem C_X11_from {l : Launch} {ad : Int → Nat} {D : va_G} {cy : Nat → ClassId} {Z : State → Prop} (hZ : q_Zg ad Z) : q_Ct l q_T q_N ad D cy Z yX11_from cX11_from 4 (some .int) rm_X11_from sp_X11_from := by
  obtain ⟨hf, hg, hld⟩ := q_chkS k_X11_from
  refine q_met (rk := 0) q_wokT (by decide) rfl hf hg hld rfl (q_skS L_X11_from o_X11_from) ?_ ?_ ?_ ?_ B_X11_from
  · intro i hi; exact absurd hi List.not_mem_nil
  · intro i hi
    have hi : i = 149 ∨ i = 134 ∨ i = 128 := by simpa [u_X11_from] using hi
    rcases hi with rfl | rfl | rfl
    · exact q_crV hZ.1 (C_X11_isBoard hZ) rv_X11_isBoard cm_X11_isBoard (by decide +kernel) (by decide +kernel) (by decide +kernel) (by decide +kernel) (by decide +kernel) ⟨rfl, rfl⟩ (by decide)
    · exact q_crV hZ.1 (C_X11_isTile hZ) rv_X11_isTile cm_X11_isTile (by decide +kernel) (by decide +kernel) (by decide +kernel) (by decide +kernel) (by decide +kernel) ⟨rfl, rfl⟩ (by decide)
    · exact q_crV hZ.1 (C_X11_fromOf hZ) rv_X11_fromOf cm_X11_fromOf (by decide +kernel) (by decide +kernel) (by decide +kernel) (by decide +kernel) (by decide +kernel) ⟨rfl, rfl⟩ (by decide)
  · intro i hi
    have hi : i = 95 := by simpa [u_X11_from] using hi
    rcases hi with rfl
    · exact q_crS hZ.1 (C_X11_in hZ) cm_X11_in (by decide +kernel) (by decide +kernel) (by decide +kernel) (by decide +kernel) ⟨rfl, rfl⟩ (by decide)
  · intro i hi; exact absurd hi List.not_mem_nil
theorem rv_X11_from : q_rcv q_T yX11_from.cls sp_X11_from := by
  intro ra μ K h
  obtain ⟨this, board, tile, sheet, rfl, h⟩ := sp_X11_from_i h
  obtain rfl := h.1
  exact ⟨[.inl sheet, .inl tile, .inl board], 85, 11, _, _, rfl, T_85, rfl, rfl⟩
theorem cm_X11_from : Cond.code yX11_from cX11_from 4 (some .int) ∈ q_tb := by decide +kernel
def sp_X11_fresh : QP := fun ra μ K => match ra with
  | [.inl tile, .inl board, .inr (.inr this)] => this = 85 ∧ (q_r board ∧ q_r tile) ∧ m_dim (μ 85 2) (μ 85 3) ∧ (0 ≤ μ 85 7 ∧ μ 85 7 ≤ 10) ∧ (∀ j : Int, q_r (μ 94 j)) ∧ K (some (.inl (if (0 ≤ board ∧ board < μ 85 7) ∧ m_tl (μ 85 2) (μ 85 3) tile then (if μ 94 (9 * board + tile) = 0 then 0 else 1) else -1))) (q_up μ 85 0 0)
  | _ => False
theorem sp_X11_fresh_e (this board tile : Int) (μ : QM) (K : Option QV → QM → Prop) : sp_X11_fresh [.inl tile, .inl board, .inr (.inr this)] μ K = (this = 85 ∧ (q_r board ∧ q_r tile) ∧ m_dim (μ 85 2) (μ 85 3) ∧ (0 ≤ μ 85 7 ∧ μ 85 7 ≤ 10) ∧ (∀ j : Int, q_r (μ 94 j)) ∧ K (some (.inl (if (0 ≤ board ∧ board < μ 85 7) ∧ m_tl (μ 85 2) (μ 85 3) tile then (if μ 94 (9 * board + tile) = 0 then 0 else 1) else -1))) (q_up μ 85 0 0)) := propext Iff.rfl
theorem sp_X11_fresh_i {ra : List QV} {μ : QM} {K : Option QV → QM → Prop} (h : sp_X11_fresh ra μ K) : ∃ this board tile : Int, ra = [.inl tile, .inl board, .inr (.inr this)] ∧ (this = 85 ∧ (q_r board ∧ q_r tile) ∧ m_dim (μ 85 2) (μ 85 3) ∧ (0 ≤ μ 85 7 ∧ μ 85 7 ≤ 10) ∧ (∀ j : Int, q_r (μ 94 j)) ∧ K (some (.inl (if (0 ≤ board ∧ board < μ 85 7) ∧ m_tl (μ 85 2) (μ 85 3) tile then (if μ 94 (9 * board + tile) = 0 then 0 else 1) else -1))) (q_up μ 85 0 0)) := by
  unfold sp_X11_fresh at h
  split at h
  · exact ⟨_, _, _, rfl, h⟩
  · exact h.elim
def rm_X11_fresh : Room := { frames := 2, cells := 0, slots := 0, locals := 46 }
def G_X11_fresh : Nat → Nat × QP := fun i => match i with
  | 149 => (2, sp_X11_isBoard)
  | 134 => (2, sp_X11_isTile)
  | _ => (0, fun _ _ _ => False)
theorem G_X11_fresh_149 : G_X11_fresh 149 = (2, sp_X11_isBoard) := id rfl
theorem G_X11_fresh_134 : G_X11_fresh 134 = (2, sp_X11_isTile) := id rfl
set_option maxRecDepth 100000 in
set_option maxHeartbeats 4000000 in
theorem B_X11_fresh : q_Body cX11_fresh 3 u_X11_fresh fl_X11 ld_X11 G_X11_fresh q_T 0 s_X11_fresh sp_X11_fresh := by
  intro S Rt hR ra μ h
  obtain ⟨this, board, tile, rfl, h⟩ := sp_X11_fresh_i h
  refine ⟨by simp [q_sl, q_ct], ?_⟩
  show S 0 [some (.inr (.inr this)), some (.inl board), some (.inl tile)] [] μ
  obtain ⟨rfl, h1, h2, h3, h4, hk⟩ := h
  have h5 := h4 (9 * board + tile)
  refine hR 80 [] 0 _ _ _ rfl ?_
  simp only [v_opt_n, v_opt_s, v_nil, v_iconst, v_bipush, v_sipush, v_lconst0, v_lconst1, v_ldc, v_ldcw, v_ldc2, v_iload0, v_iload1, v_iload2, v_iload3, v_iload, v_lload0, v_lload1, v_lload2, v_lload3, v_lload, v_aload0, v_aload1, v_aload2, v_aload3, v_aload, v_istore0, v_istore1, v_istore2, v_istore3, v_istore, v_lstore0, v_lstore1, v_lstore2, v_lstore3, v_lstore, v_astore0, v_astore1, v_astore2, v_astore3, v_astore, v_iinc, v_iadd, v_isub, v_imul, v_iand, v_ior, v_ixor, v_ishl, v_ishr, v_iushr, v_ineg, v_idiv, v_irem, v_ladd, v_lsub, v_lmul, v_lcmp, v_i2l, v_l2i, v_i2c, v_dup, v_dup2, v_if_eq, v_if_ne, v_if_lt, v_if_ge, v_if_gt, v_if_le, v_ic_eq, v_ic_ne, v_ic_lt, v_ic_ge, v_ic_gt, v_ic_le, v_goto, v_tsw, v_lsw, v_ireturn, v_areturn, v_return, v_iaload, v_laload, v_baload, v_caload, v_aaload, v_iastore, v_lastore, v_bastore, v_castore, v_alen, v_invvi, v_invst, v_invsp, e_int, e_lng, e_ref, e_lg0, e_lg1, e_lg2, e_lg3, e_lg4, e_lg5, e_lg6, e_lg7, e_lg8, e_lg9, e_lg10, e_lg11, e_lg12, e_lg13, e_clrI, e_clrJ, e_clrP, e_clrN, e_s0, e_s1, e_s2, e_s3, e_s4, e_s5, e_s6, e_s7, e_s8, e_s9, e_s10, e_s11, e_s12, e_s13, e_t0, e_t1, e_t2, e_t3, e_t4, e_t5, e_t6, e_t7, e_t8, e_t9, e_t10, e_t11, e_t12, e_t13, e_fd, e_kk, e_k0, e_k1, e_k2, e_k3, e_k4, e_k5, e_k6, e_k7, e_k8, e_k9, e_sv0, e_sv1, e_sv2, e_sv3, e_svc, e_pf0, e_pf1, e_pf2, e_pf3, e_ar, e_aa, e_al, e_sw1, e_sw2, e_ct0, e_ct1, e_ct2, e_cat0, e_cat1, e_rk0, e_rk1, e_rk2, e_inv0, e_inv1, e_inv2, e_inv3, e_inv4, e_inv5, e_inv6, e_o0, e_o1, e_cl, e_cle, e_cg, e_cge, e_ce, e_cr1, e_cr2, e_r, e_R, e_up, Int.cast_ofNat_Int, u_app, false_and, and_false, e_b0, e_b1, e_bn, e_bl, e_bu, Int.reduceLE, Int.reduceLT, Int.reduceEq, Int.reduceNeg, Int.reduceAdd, Int.reduceSub, Int.reduceMul, Nat.reduceLeDiff, Nat.reduceLT, Nat.reduceAdd, Nat.reduceEqDiff, true_and, and_true, true_or, or_true, false_or, or_false, forall_const, not_true_eq_false, not_false_eq_true, true_implies, false_implies, implies_true, and_self, zero_ne_one, one_ne_zero, eq_self, reduceIte, s_X11_fresh_0, b_X11_fresh_0, s_X11_fresh_13, b_X11_fresh_13, s_X11_fresh_21, b_X11_fresh_21, s_X11_fresh_35, b_X11_fresh_35, s_X11_fresh_39, b_X11_fresh_39, s_X11_fresh_43, b_X11_fresh_43, s_X11_fresh_44, b_X11_fresh_44, g_X11_85, p_X11_85, g_X11_42, G_X11_fresh_149, sp_X11_isBoard_e, G_X11_fresh_134, sp_X11_isTile_e, T_94]
  (repeat' split at hk) <;> (repeat' (first | assumption | (refine And.intro ?_ ?_) | (intro _))) <;> first | omega | (exfalso; omega)
set_option maxRecDepth 100000 in
theorem C_X11_fresh {l : Launch} {ad : Int → Nat} {D : va_G} {cy : Nat → ClassId} {Z : State → Prop} (hZ : q_Zg ad Z) : q_Ct l q_T q_N ad D cy Z yX11_fresh cX11_fresh 3 (some .int) rm_X11_fresh sp_X11_fresh := by
  obtain ⟨hf, hg, hld⟩ := q_chkS k_X11_fresh
  refine q_met (rk := 0) q_wokT (by decide) rfl hf hg hld rfl (q_skS L_X11_fresh o_X11_fresh) ?_ ?_ ?_ ?_ B_X11_fresh
  · intro i hi; exact absurd hi List.not_mem_nil
  · intro i hi
    have hi : i = 149 ∨ i = 134 := by simpa [u_X11_fresh] using hi
    rcases hi with rfl | rfl
    · exact q_crV hZ.1 (C_X11_isBoard hZ) rv_X11_isBoard cm_X11_isBoard (by decide +kernel) (by decide +kernel) (by decide +kernel) (by decide +kernel) (by decide +kernel) ⟨rfl, rfl⟩ (by decide)
    · exact q_crV hZ.1 (C_X11_isTile hZ) rv_X11_isTile cm_X11_isTile (by decide +kernel) (by decide +kernel) (by decide +kernel) (by decide +kernel) (by decide +kernel) ⟨rfl, rfl⟩ (by decide)
  · intro i hi; exact absurd hi List.not_mem_nil
  · intro i hi; exact absurd hi List.not_mem_nil
theorem rv_X11_fresh : q_rcv q_T yX11_fresh.cls sp_X11_fresh := by
  intro ra μ K h
  obtain ⟨this, board, tile, rfl, h⟩ := sp_X11_fresh_i h
  obtain rfl := h.1
  exact ⟨[.inl tile, .inl board], 85, 11, _, _, rfl, T_85, rfl, rfl⟩
theorem cm_X11_fresh : Cond.code yX11_fresh cX11_fresh 3 (some .int) ∈ q_tb := by decide +kernel
def sp_X11_feed : QP := fun ra μ K => match ra with
  | [.inl e, .inl d, .inl c, .inl b, .inl a, .inr (.inr this)] => this = 85 ∧ (0 ≤ μ 85 31 ∧ μ 85 31 ≤ 300) ∧ (if 300 < μ 85 31 + 20 then K (some (.inl (-1))) (q_up μ 85 0 0) else K (some (.inl (μ 85 31 + 20))) (m_four (m_four (m_four (m_four (m_four (q_up μ 85 0 0) a) b) c) d) e))
  | _ => False
theorem sp_X11_feed_e (this a b c d e : Int) (μ : QM) (K : Option QV → QM → Prop) : sp_X11_feed [.inl e, .inl d, .inl c, .inl b, .inl a, .inr (.inr this)] μ K = (this = 85 ∧ (0 ≤ μ 85 31 ∧ μ 85 31 ≤ 300) ∧ (if 300 < μ 85 31 + 20 then K (some (.inl (-1))) (q_up μ 85 0 0) else K (some (.inl (μ 85 31 + 20))) (m_four (m_four (m_four (m_four (m_four (q_up μ 85 0 0) a) b) c) d) e))) := propext Iff.rfl
theorem sp_X11_feed_i {ra : List QV} {μ : QM} {K : Option QV → QM → Prop} (h : sp_X11_feed ra μ K) : ∃ this a b c d e : Int, ra = [.inl e, .inl d, .inl c, .inl b, .inl a, .inr (.inr this)] ∧ (this = 85 ∧ (0 ≤ μ 85 31 ∧ μ 85 31 ≤ 300) ∧ (if 300 < μ 85 31 + 20 then K (some (.inl (-1))) (q_up μ 85 0 0) else K (some (.inl (μ 85 31 + 20))) (m_four (m_four (m_four (m_four (m_four (q_up μ 85 0 0) a) b) c) d) e))) := by
  unfold sp_X11_feed at h
  split at h
  · exact ⟨_, _, _, _, _, _, rfl, h⟩
  · exact h.elim
def rm_X11_feed : Room := { frames := 1, cells := 0, slots := 0, locals := 22 }
def G_X11_feed : Nat → Nat × QP := fun i => match i with
  | 221 => (2, sp_X11_four)
  | _ => (0, fun _ _ _ => False)
theorem G_X11_feed_221 : G_X11_feed 221 = (2, sp_X11_four) := id rfl
theorem m_four_t (μ : QM) (v : Int) : m_four μ v 85 31 = μ 85 31 + 4 := by
  unfold m_four
  exact e_up _ _ _ _
set_option maxRecDepth 100000 in
set_option maxHeartbeats 4000000 in
theorem B_X11_feed : q_Body cX11_feed 6 u_X11_feed fl_X11 ld_X11 G_X11_feed q_T 0 s_X11_feed sp_X11_feed := by
  intro S Rt hR ra μ h
  obtain ⟨this, a, b, c, d, e, rfl, h⟩ := sp_X11_feed_i h
  refine ⟨by simp [q_sl, q_ct], ?_⟩
  show S 0 [some (.inr (.inr this)), some (.inl a), some (.inl b), some (.inl c), some (.inl d), some (.inl e)] [] μ
  obtain ⟨rfl, h1, hk⟩ := h
  refine hR 80 [] 0 _ _ _ rfl ?_
  simp only [v_opt_n, v_opt_s, v_nil, v_iconst, v_bipush, v_sipush, v_lconst0, v_lconst1, v_ldc, v_ldcw, v_ldc2, v_iload0, v_iload1, v_iload2, v_iload3, v_iload, v_lload0, v_lload1, v_lload2, v_lload3, v_lload, v_aload0, v_aload1, v_aload2, v_aload3, v_aload, v_istore0, v_istore1, v_istore2, v_istore3, v_istore, v_lstore0, v_lstore1, v_lstore2, v_lstore3, v_lstore, v_astore0, v_astore1, v_astore2, v_astore3, v_astore, v_iinc, v_iadd, v_isub, v_imul, v_iand, v_ior, v_ixor, v_ishl, v_ishr, v_iushr, v_ineg, v_idiv, v_irem, v_ladd, v_lsub, v_lmul, v_lcmp, v_i2l, v_l2i, v_i2c, v_dup, v_dup2, v_if_eq, v_if_ne, v_if_lt, v_if_ge, v_if_gt, v_if_le, v_ic_eq, v_ic_ne, v_ic_lt, v_ic_ge, v_ic_gt, v_ic_le, v_goto, v_tsw, v_lsw, v_ireturn, v_areturn, v_return, v_iaload, v_laload, v_baload, v_caload, v_aaload, v_iastore, v_lastore, v_bastore, v_castore, v_alen, v_invvi, v_invst, v_invsp, e_int, e_lng, e_ref, e_lg0, e_lg1, e_lg2, e_lg3, e_lg4, e_lg5, e_lg6, e_lg7, e_lg8, e_lg9, e_lg10, e_lg11, e_lg12, e_lg13, e_clrI, e_clrJ, e_clrP, e_clrN, e_s0, e_s1, e_s2, e_s3, e_s4, e_s5, e_s6, e_s7, e_s8, e_s9, e_s10, e_s11, e_s12, e_s13, e_t0, e_t1, e_t2, e_t3, e_t4, e_t5, e_t6, e_t7, e_t8, e_t9, e_t10, e_t11, e_t12, e_t13, e_fd, e_kk, e_k0, e_k1, e_k2, e_k3, e_k4, e_k5, e_k6, e_k7, e_k8, e_k9, e_sv0, e_sv1, e_sv2, e_sv3, e_svc, e_pf0, e_pf1, e_pf2, e_pf3, e_ar, e_aa, e_al, e_sw1, e_sw2, e_ct0, e_ct1, e_ct2, e_cat0, e_cat1, e_rk0, e_rk1, e_rk2, e_inv0, e_inv1, e_inv2, e_inv3, e_inv4, e_inv5, e_inv6, e_o0, e_o1, e_cl, e_cle, e_cg, e_cge, e_ce, e_cr1, e_cr2, e_r, e_R, e_up, Int.cast_ofNat_Int, u_app, false_and, and_false, e_b0, e_b1, e_bn, e_bl, e_bu, Int.reduceLE, Int.reduceLT, Int.reduceEq, Int.reduceNeg, Int.reduceAdd, Int.reduceSub, Int.reduceMul, Nat.reduceLeDiff, Nat.reduceLT, Nat.reduceAdd, Nat.reduceEqDiff, true_and, and_true, true_or, or_true, false_or, or_false, forall_const, not_true_eq_false, not_false_eq_true, true_implies, false_implies, implies_true, and_self, zero_ne_one, one_ne_zero, eq_self, reduceIte, s_X11_feed_0, b_X11_feed_0, s_X11_feed_18, b_X11_feed_18, s_X11_feed_20, b_X11_feed_20, g_X11_85, p_X11_85, g_X11_218, G_X11_feed_221, sp_X11_four_e, m_four_t]
  split at hk
  · (repeat' (first | assumption | (refine And.intro ?_ ?_) | (intro _))) <;> first | omega | (exfalso; omega)
  · have e9 : μ 85 31 + 4 + 4 + 4 + 4 + 4 = μ 85 31 + 20 := by omega
    simp only [e9]
    (repeat' (first | assumption | (refine And.intro ?_ ?_) | (intro _))) <;> first | omega | (exfalso; omega)
set_option maxRecDepth 100000 in
theorem C_X11_feed {l : Launch} {ad : Int → Nat} {D : va_G} {cy : Nat → ClassId} {Z : State → Prop} (hZ : q_Zg ad Z) : q_Ct l q_T q_N ad D cy Z yX11_feed cX11_feed 6 (some .int) rm_X11_feed sp_X11_feed := by
  obtain ⟨hf, hg, hld⟩ := q_chkS k_X11_feed
  refine q_met (rk := 0) q_wokT (by decide) rfl hf hg hld rfl (q_skS L_X11_feed o_X11_feed) ?_ ?_ ?_ ?_ B_X11_feed
  · intro i hi; exact absurd hi List.not_mem_nil
  · intro i hi
    have hi : i = 221 := by simpa [u_X11_feed] using hi
    rcases hi with rfl
    · exact q_crV hZ.1 (C_X11_four hZ) rv_X11_four cm_X11_four (by decide +kernel) (by decide +kernel) (by decide +kernel) (by decide +kernel) (by decide +kernel) ⟨rfl, rfl⟩ (by decide)
  · intro i hi; exact absurd hi List.not_mem_nil
  · intro i hi; exact absurd hi List.not_mem_nil
theorem rv_X11_feed : q_rcv q_T yX11_feed.cls sp_X11_feed := by
  intro ra μ K h
  obtain ⟨this, a, b, c, d, e, rfl, h⟩ := sp_X11_feed_i h
  obtain rfl := h.1
  exact ⟨[.inl e, .inl d, .inl c, .inl b, .inl a], 85, 11, _, _, rfl, T_85, rfl, rfl⟩
theorem cm_X11_feed : Cond.code yX11_feed cX11_feed 6 (some .int) ∈ q_tb := by decide +kernel
def sp_X11_end : QP := fun ra μ K => match ra with
  | [.inl n, .inr (.inr this)] => this = 85 ∧ (q_r n ∧ q_r (μ 85 31)) ∧ (if n < 0 ∨ μ 85 31 < n then K (some (.inl (-1))) (q_up μ 85 0 0) else K (some (.inl n)) (q_up (q_up μ 85 0 0) 85 31 n))
  | _ => False
theorem sp_X11_end_e (this n : Int) (μ : QM) (K : Option QV → QM → Prop) : sp_X11_end [.inl n, .inr (.inr this)] μ K = (this = 85 ∧ (q_r n ∧ q_r (μ 85 31)) ∧ (if n < 0 ∨ μ 85 31 < n then K (some (.inl (-1))) (q_up μ 85 0 0) else K (some (.inl n)) (q_up (q_up μ 85 0 0) 85 31 n))) := propext Iff.rfl
theorem sp_X11_end_i {ra : List QV} {μ : QM} {K : Option QV → QM → Prop} (h : sp_X11_end ra μ K) : ∃ this n : Int, ra = [.inl n, .inr (.inr this)] ∧ (this = 85 ∧ (q_r n ∧ q_r (μ 85 31)) ∧ (if n < 0 ∨ μ 85 31 < n then K (some (.inl (-1))) (q_up μ 85 0 0) else K (some (.inl n)) (q_up (q_up μ 85 0 0) 85 31 n))) := by
  unfold sp_X11_end at h
  split at h
  · exact ⟨_, _, rfl, h⟩
  · exact h.elim
def rm_X11_end : Room := { frames := 0, cells := 0, slots := 0, locals := 0 }
def G_X11_end : Nat → Nat × QP := fun i => match i with
  | _ => (0, fun _ _ _ => False)
set_option maxRecDepth 100000 in
set_option maxHeartbeats 4000000 in
theorem B_X11_end : q_Body cX11_end 2 u_X11_end fl_X11 ld_X11 G_X11_end q_T 0 s_X11_end sp_X11_end := by
  intro S Rt hR ra μ h
  obtain ⟨this, n, rfl, h⟩ := sp_X11_end_i h
  refine ⟨by simp [q_sl, q_ct], ?_⟩
  show S 0 [some (.inr (.inr this)), some (.inl n)] [] μ
  obtain ⟨rfl, h1, hk⟩ := h
  refine hR 80 [] 0 _ _ _ rfl ?_
  simp only [v_opt_n, v_opt_s, v_nil, v_iconst, v_bipush, v_sipush, v_lconst0, v_lconst1, v_ldc, v_ldcw, v_ldc2, v_iload0, v_iload1, v_iload2, v_iload3, v_iload, v_lload0, v_lload1, v_lload2, v_lload3, v_lload, v_aload0, v_aload1, v_aload2, v_aload3, v_aload, v_istore0, v_istore1, v_istore2, v_istore3, v_istore, v_lstore0, v_lstore1, v_lstore2, v_lstore3, v_lstore, v_astore0, v_astore1, v_astore2, v_astore3, v_astore, v_iinc, v_iadd, v_isub, v_imul, v_iand, v_ior, v_ixor, v_ishl, v_ishr, v_iushr, v_ineg, v_idiv, v_irem, v_ladd, v_lsub, v_lmul, v_lcmp, v_i2l, v_l2i, v_i2c, v_dup, v_dup2, v_if_eq, v_if_ne, v_if_lt, v_if_ge, v_if_gt, v_if_le, v_ic_eq, v_ic_ne, v_ic_lt, v_ic_ge, v_ic_gt, v_ic_le, v_goto, v_tsw, v_lsw, v_ireturn, v_areturn, v_return, v_iaload, v_laload, v_baload, v_caload, v_aaload, v_iastore, v_lastore, v_bastore, v_castore, v_alen, v_invvi, v_invst, v_invsp, e_int, e_lng, e_ref, e_lg0, e_lg1, e_lg2, e_lg3, e_lg4, e_lg5, e_lg6, e_lg7, e_lg8, e_lg9, e_lg10, e_lg11, e_lg12, e_lg13, e_clrI, e_clrJ, e_clrP, e_clrN, e_s0, e_s1, e_s2, e_s3, e_s4, e_s5, e_s6, e_s7, e_s8, e_s9, e_s10, e_s11, e_s12, e_s13, e_t0, e_t1, e_t2, e_t3, e_t4, e_t5, e_t6, e_t7, e_t8, e_t9, e_t10, e_t11, e_t12, e_t13, e_fd, e_kk, e_k0, e_k1, e_k2, e_k3, e_k4, e_k5, e_k6, e_k7, e_k8, e_k9, e_sv0, e_sv1, e_sv2, e_sv3, e_svc, e_pf0, e_pf1, e_pf2, e_pf3, e_ar, e_aa, e_al, e_sw1, e_sw2, e_ct0, e_ct1, e_ct2, e_cat0, e_cat1, e_rk0, e_rk1, e_rk2, e_inv0, e_inv1, e_inv2, e_inv3, e_inv4, e_inv5, e_inv6, e_o0, e_o1, e_cl, e_cle, e_cg, e_cge, e_ce, e_cr1, e_cr2, e_r, e_R, e_up, Int.cast_ofNat_Int, u_app, false_and, and_false, e_b0, e_b1, e_bn, e_bl, e_bu, Int.reduceLE, Int.reduceLT, Int.reduceEq, Int.reduceNeg, Int.reduceAdd, Int.reduceSub, Int.reduceMul, Nat.reduceLeDiff, Nat.reduceLT, Nat.reduceAdd, Nat.reduceEqDiff, true_and, and_true, true_or, or_true, false_or, or_false, forall_const, not_true_eq_false, not_false_eq_true, true_implies, false_implies, implies_true, and_self, zero_ne_one, one_ne_zero, eq_self, reduceIte, s_X11_end_0, b_X11_end_0, s_X11_end_9, b_X11_end_9, s_X11_end_17, b_X11_end_17, s_X11_end_19, b_X11_end_19, g_X11_85, p_X11_85, g_X11_218, p_X11_218]
  split at hk <;> (repeat' (first | assumption | (refine And.intro ?_ ?_) | (intro _))) <;> first | omega | (exfalso; omega)
set_option maxRecDepth 100000 in
theorem C_X11_end {l : Launch} {ad : Int → Nat} {D : va_G} {cy : Nat → ClassId} {Z : State → Prop} (hZ : q_Zg ad Z) : q_Ct l q_T q_N ad D cy Z yX11_end cX11_end 2 (some .int) rm_X11_end sp_X11_end := by
  obtain ⟨hf, hg, hld⟩ := q_chkS k_X11_end
  refine q_met (rk := 0) q_wokT (by decide) rfl hf hg hld rfl (q_skS L_X11_end o_X11_end) ?_ ?_ ?_ ?_ B_X11_end
  · intro i hi; exact absurd hi List.not_mem_nil
  · intro i hi; exact absurd hi List.not_mem_nil
  · intro i hi; exact absurd hi List.not_mem_nil
  · intro i hi; exact absurd hi List.not_mem_nil
theorem rv_X11_end : q_rcv q_T yX11_end.cls sp_X11_end := by
  intro ra μ K h
  obtain ⟨this, n, rfl, h⟩ := sp_X11_end_i h
  obtain rfl := h.1
  exact ⟨[.inl n], 85, 11, _, _, rfl, T_85, rfl, rfl⟩
theorem cm_X11_end : Cond.code yX11_end cX11_end 2 (some .int) ∈ q_tb := by decide +kernel

