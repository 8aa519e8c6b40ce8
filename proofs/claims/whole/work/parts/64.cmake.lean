/-! the class: the making of cells -/
def sp_X1_ofBoth : QP := fun ra μ K => match ra with
  | [.inl b, .inl a, .inl kind] => (1 ≤ kind ∧ kind ≤ 6) ∧ (m_vr a ∧ m_vr b ∧ ¬ a = -2000000000 ∧ ¬ b = -2000000000) ∧ K (some (.inl (q_cellOf kind a b))) μ
  | _ => False
theorem sp_X1_ofBoth_e (kind a b : Int) (μ : QM) (K : Option QV → QM → Prop) : sp_X1_ofBoth [.inl b, .inl a, .inl kind] μ K = ((1 ≤ kind ∧ kind ≤ 6) ∧ (m_vr a ∧ m_vr b ∧ ¬ a = -2000000000 ∧ ¬ b = -2000000000) ∧ K (some (.inl (q_cellOf kind a b))) μ) := propext Iff.rfl
theorem sp_X1_ofBoth_i {ra : List QV} {μ : QM} {K : Option QV → QM → Prop} (h : sp_X1_ofBoth ra μ K) : ∃ kind a b : Int, ra = [.inl b, .inl a, .inl kind] ∧ ((1 ≤ kind ∧ kind ≤ 6) ∧ (m_vr a ∧ m_vr b ∧ ¬ a = -2000000000 ∧ ¬ b = -2000000000) ∧ K (some (.inl (q_cellOf kind a b))) μ) := by
  unfold sp_X1_ofBoth at h
  split at h
  · exact ⟨_, _, _, rfl, h⟩
  · exact h.elim
def rm_X1_ofBoth : Room := { frames := 1, cells := 0, slots := 0, locals := 21 }
def G_X1_ofBoth : Nat → Nat × QP := fun i => match i with
  | 105 => (1, sp_X10_orGap)
  | 109 => (2, sp_J9_min_7cf53)
  | 114 => (2, sp_J9_max_7cf53)
  | _ => (0, fun _ _ _ => False)
theorem G_X1_ofBoth_105 : G_X1_ofBoth 105 = (1, sp_X10_orGap) := id rfl
theorem G_X1_ofBoth_109 : G_X1_ofBoth 109 = (2, sp_J9_min_7cf53) := id rfl
theorem G_X1_ofBoth_114 : G_X1_ofBoth 114 = (2, sp_J9_max_7cf53) := id rfl
set_option maxRecDepth 100000 in
set_option maxRecDepth 100000 in
set_option maxHeartbeats 4000000 in
theorem B_X1_ofBoth : q_Body cX1_ofBoth 3 u_X1_ofBoth fl_X1 ld_X1 G_X1_ofBoth q_T 0 s_X1_ofBoth sp_X1_ofBoth := by
  intro S Rt hR ra μ h
  obtain ⟨kind, a, b, rfl, h⟩ := sp_X1_ofBoth_i h
  refine ⟨by simp [q_sl, q_ct], ?_⟩
  show S 0 [some (.inl kind), some (.inl a), some (.inl b)] [] μ
  obtain ⟨h1, ⟨ha, hb, na, nb⟩, hk⟩ := h
  have hm := q_mulR (a := a) (b := b) (by omega) (by omega)
  unfold q_cellOf at hk
  rw [if_neg (by omega)] at hk
  have : kind = 1 ∨ kind = 2 ∨ kind = 3 ∨ kind = 4 ∨ kind = 5 ∨ kind = 6 := by omega
  rcases this with rfl | rfl | rfl | rfl | rfl | rfl
  all_goals simp only [Int.reduceEq, if_false, if_true] at hk
  · refine hR 40 [] 0 _ _ _ rfl ?_
    simp only [v_opt_n, v_opt_s, v_nil, v_iconst, v_bipush, v_sipush, v_lconst0, v_lconst1, v_ldc, v_ldcw, v_ldc2, v_iload0, v_iload1, v_iload2, v_iload3, v_iload, v_lload0, v_lload1, v_lload2, v_lload3, v_lload, v_aload0, v_aload1, v_aload2, v_aload3, v_aload, v_istore0, v_istore1, v_istore2, v_istore3, v_istore, v_lstore0, v_lstore1, v_lstore2, v_lstore3, v_lstore, v_astore0, v_astore1, v_astore2, v_astore3, v_astore, v_iinc, v_iadd, v_isub, v_imul, v_iand, v_ior, v_ixor, v_ishl, v_ishr, v_iushr, v_ineg, v_idiv, v_irem, v_ladd, v_lsub, v_lmul, v_lcmp, v_i2l, v_l2i, v_i2c, v_dup, v_dup2, v_if_eq, v_if_ne, v_if_lt, v_if_ge, v_if_gt, v_if_le, v_ic_eq, v_ic_ne, v_ic_lt, v_ic_ge, v_ic_gt, v_ic_le, v_goto, v_tsw, v_lsw, v_ireturn, v_areturn, v_return, v_iaload, v_laload, v_baload, v_caload, v_aaload, v_iastore, v_lastore, v_bastore, v_castore, v_alen, v_invvi, v_invst, v_invsp, e_int, e_lng, e_ref, e_lg0, e_lg1, e_lg2, e_lg3, e_lg4, e_lg5, e_lg6, e_lg7, e_lg8, e_lg9, e_lg10, e_lg11, e_lg12, e_lg13, e_clrI, e_clrJ, e_clrP, e_clrN, e_s0, e_s1, e_s2, e_s3, e_s4, e_s5, e_s6, e_s7, e_s8, e_s9, e_s10, e_s11, e_s12, e_s13, e_t0, e_t1, e_t2, e_t3, e_t4, e_t5, e_t6, e_t7, e_t8, e_t9, e_t10, e_t11, e_t12, e_t13, e_fd, e_kk, e_k0, e_k1, e_k2, e_k3, e_k4, e_k5, e_k6, e_k7, e_k8, e_k9, e_sv0, e_sv1, e_sv2, e_sv3, e_svc, e_pf0, e_pf1, e_pf2, e_pf3, e_ar, e_aa, e_al, e_sw1, e_sw2, e_ct0, e_ct1, e_ct2, e_cat0, e_cat1, e_rk0, e_rk1, e_rk2, e_inv0, e_inv1, e_inv2, e_inv3, e_inv4, e_inv5, e_inv6, e_o0, e_o1, e_cl, e_cle, e_cg, e_cge, e_ce, e_cr1, e_cr2, e_r, e_R, e_up, Int.cast_ofNat_Int, u_app, false_and, and_false, e_b0, e_b1, e_bn, e_bl, e_bu, Int.reduceLE, Int.reduceLT, Int.reduceEq, Int.reduceNeg, Int.reduceAdd, Int.reduceSub, Int.reduceMul, Nat.reduceLeDiff, Nat.reduceLT, Nat.reduceAdd, Nat.reduceEqDiff, true_and, and_true, true_or, or_true, false_or, or_false, forall_const, not_true_eq_false, not_false_eq_true, true_implies, false_implies, implies_true, and_self, zero_ne_one, one_ne_zero, eq_self, reduceIte, s_X1_ofBoth_0, b_X1_ofBoth_0, s_X1_ofBoth_40, b_X1_ofBoth_40, s_X1_ofBoth_44, b_X1_ofBoth_44, s_X1_ofBoth_48, b_X1_ofBoth_48, s_X1_ofBoth_50, b_X1_ofBoth_50, s_X1_ofBoth_51, b_X1_ofBoth_51, s_X1_ofBoth_60, b_X1_ofBoth_60, s_X1_ofBoth_69, b_X1_ofBoth_69, s_X1_ofBoth_78, b_X1_ofBoth_78, s_X1_ofBoth_84, b_X1_ofBoth_84, ld_X1_100, G_X1_ofBoth_105, sp_X10_orGap_e, G_X1_ofBoth_109, sp_J9_min_7cf53_e, G_X1_ofBoth_114, sp_J9_max_7cf53_e]
    exact ⟨by omega, by omega, by omega, hk⟩
  · refine hR 40 [] 0 _ _ _ rfl ?_
    simp only [v_opt_n, v_opt_s, v_nil, v_iconst, v_bipush, v_sipush, v_lconst0, v_lconst1, v_ldc, v_ldcw, v_ldc2, v_iload0, v_iload1, v_iload2, v_iload3, v_iload, v_lload0, v_lload1, v_lload2, v_lload3, v_lload, v_aload0, v_aload1, v_aload2, v_aload3, v_aload, v_istore0, v_istore1, v_istore2, v_istore3, v_istore, v_lstore0, v_lstore1, v_lstore2, v_lstore3, v_lstore, v_astore0, v_astore1, v_astore2, v_astore3, v_astore, v_iinc, v_iadd, v_isub, v_imul, v_iand, v_ior, v_ixor, v_ishl, v_ishr, v_iushr, v_ineg, v_idiv, v_irem, v_ladd, v_lsub, v_lmul, v_lcmp, v_i2l, v_l2i, v_i2c, v_dup, v_dup2, v_if_eq, v_if_ne, v_if_lt, v_if_ge, v_if_gt, v_if_le, v_ic_eq, v_ic_ne, v_ic_lt, v_ic_ge, v_ic_gt, v_ic_le, v_goto, v_tsw, v_lsw, v_ireturn, v_areturn, v_return, v_iaload, v_laload, v_baload, v_caload, v_aaload, v_iastore, v_lastore, v_bastore, v_castore, v_alen, v_invvi, v_invst, v_invsp, e_int, e_lng, e_ref, e_lg0, e_lg1, e_lg2, e_lg3, e_lg4, e_lg5, e_lg6, e_lg7, e_lg8, e_lg9, e_lg10, e_lg11, e_lg12, e_lg13, e_clrI, e_clrJ, e_clrP, e_clrN, e_s0, e_s1, e_s2, e_s3, e_s4, e_s5, e_s6, e_s7, e_s8, e_s9, e_s10, e_s11, e_s12, e_s13, e_t0, e_t1, e_t2, e_t3, e_t4, e_t5, e_t6, e_t7, e_t8, e_t9, e_t10, e_t11, e_t12, e_t13, e_fd, e_kk, e_k0, e_k1, e_k2, e_k3, e_k4, e_k5, e_k6, e_k7, e_k8, e_k9, e_sv0, e_sv1, e_sv2, e_sv3, e_svc, e_pf0, e_pf1, e_pf2, e_pf3, e_ar, e_aa, e_al, e_sw1, e_sw2, e_ct0, e_ct1, e_ct2, e_cat0, e_cat1, e_rk0, e_rk1, e_rk2, e_inv0, e_inv1, e_inv2, e_inv3, e_inv4, e_inv5, e_inv6, e_o0, e_o1, e_cl, e_cle, e_cg, e_cge, e_ce, e_cr1, e_cr2, e_r, e_R, e_up, Int.cast_ofNat_Int, u_app, false_and, and_false, e_b0, e_b1, e_bn, e_bl, e_bu, Int.reduceLE, Int.reduceLT, Int.reduceEq, Int.reduceNeg, Int.reduceAdd, Int.reduceSub, Int.reduceMul, Nat.reduceLeDiff, Nat.reduceLT, Nat.reduceAdd, Nat.reduceEqDiff, true_and, and_true, true_or, or_true, false_or, or_false, forall_const, not_true_eq_false, not_false_eq_true, true_implies, false_implies, implies_true, and_self, zero_ne_one, one_ne_zero, eq_self, reduceIte, s_X1_ofBoth_0, b_X1_ofBoth_0, s_X1_ofBoth_40, b_X1_ofBoth_40, s_X1_ofBoth_44, b_X1_ofBoth_44, s_X1_ofBoth_48, b_X1_ofBoth_48, s_X1_ofBoth_50, b_X1_ofBoth_50, s_X1_ofBoth_51, b_X1_ofBoth_51, s_X1_ofBoth_60, b_X1_ofBoth_60, s_X1_ofBoth_69, b_X1_ofBoth_69, s_X1_ofBoth_78, b_X1_ofBoth_78, s_X1_ofBoth_84, b_X1_ofBoth_84, ld_X1_100, G_X1_ofBoth_105, sp_X10_orGap_e, G_X1_ofBoth_109, sp_J9_min_7cf53_e, G_X1_ofBoth_114, sp_J9_max_7cf53_e]
    exact ⟨by omega, by omega, by omega, hk⟩
  · refine hR 40 [] 0 _ _ _ rfl ?_
    simp only [v_opt_n, v_opt_s, v_nil, v_iconst, v_bipush, v_sipush, v_lconst0, v_lconst1, v_ldc, v_ldcw, v_ldc2, v_iload0, v_iload1, v_iload2, v_iload3, v_iload, v_lload0, v_lload1, v_lload2, v_lload3, v_lload, v_aload0, v_aload1, v_aload2, v_aload3, v_aload, v_istore0, v_istore1, v_istore2, v_istore3, v_istore, v_lstore0, v_lstore1, v_lstore2, v_lstore3, v_lstore, v_astore0, v_astore1, v_astore2, v_astore3, v_astore, v_iinc, v_iadd, v_isub, v_imul, v_iand, v_ior, v_ixor, v_ishl, v_ishr, v_iushr, v_ineg, v_idiv, v_irem, v_ladd, v_lsub, v_lmul, v_lcmp, v_i2l, v_l2i, v_i2c, v_dup, v_dup2, v_if_eq, v_if_ne, v_if_lt, v_if_ge, v_if_gt, v_if_le, v_ic_eq, v_ic_ne, v_ic_lt, v_ic_ge, v_ic_gt, v_ic_le, v_goto, v_tsw, v_lsw, v_ireturn, v_areturn, v_return, v_iaload, v_laload, v_baload, v_caload, v_aaload, v_iastore, v_lastore, v_bastore, v_castore, v_alen, v_invvi, v_invst, v_invsp, e_int, e_lng, e_ref, e_lg0, e_lg1, e_lg2, e_lg3, e_lg4, e_lg5, e_lg6, e_lg7, e_lg8, e_lg9, e_lg10, e_lg11, e_lg12, e_lg13, e_clrI, e_clrJ, e_clrP, e_clrN, e_s0, e_s1, e_s2, e_s3, e_s4, e_s5, e_s6, e_s7, e_s8, e_s9, e_s10, e_s11, e_s12, e_s13, e_t0, e_t1, e_t2, e_t3, e_t4, e_t5, e_t6, e_t7, e_t8, e_t9, e_t10, e_t11, e_t12, e_t13, e_fd, e_kk, e_k0, e_k1, e_k2, e_k3, e_k4, e_k5, e_k6, e_k7, e_k8, e_k9, e_sv0, e_sv1, e_sv2, e_sv3, e_svc, e_pf0, e_pf1, e_pf2, e_pf3, e_ar, e_aa, e_al, e_sw1, e_sw2, e_ct0, e_ct1, e_ct2, e_cat0, e_cat1, e_rk0, e_rk1, e_rk2, e_inv0, e_inv1, e_inv2, e_inv3, e_inv4, e_inv5, e_inv6, e_o0, e_o1, e_cl, e_cle, e_cg, e_cge, e_ce, e_cr1, e_cr2, e_r, e_R, e_up, Int.cast_ofNat_Int, u_app, false_and, and_false, e_b0, e_b1, e_bn, e_bl, e_bu, Int.reduceLE, Int.reduceLT, Int.reduceEq, Int.reduceNeg, Int.reduceAdd, Int.reduceSub, Int.reduceMul, Nat.reduceLeDiff, Nat.reduceLT, Nat.reduceAdd, Nat.reduceEqDiff, true_and, and_true, true_or, or_true, false_or, or_false, forall_const, not_true_eq_false, not_false_eq_true, true_implies, false_implies, implies_true, and_self, zero_ne_one, one_ne_zero, eq_self, reduceIte, s_X1_ofBoth_0, b_X1_ofBoth_0, s_X1_ofBoth_40, b_X1_ofBoth_40, s_X1_ofBoth_44, b_X1_ofBoth_44, s_X1_ofBoth_48, b_X1_ofBoth_48, s_X1_ofBoth_50, b_X1_ofBoth_50, s_X1_ofBoth_51, b_X1_ofBoth_51, s_X1_ofBoth_60, b_X1_ofBoth_60, s_X1_ofBoth_69, b_X1_ofBoth_69, s_X1_ofBoth_78, b_X1_ofBoth_78, s_X1_ofBoth_84, b_X1_ofBoth_84, ld_X1_100, G_X1_ofBoth_105, sp_X10_orGap_e, G_X1_ofBoth_109, sp_J9_min_7cf53_e, G_X1_ofBoth_114, sp_J9_max_7cf53_e]
    exact ⟨by omega, by omega, hm, hk⟩
  · refine hR 40 [] 0 _ _ _ rfl ?_
    simp only [v_opt_n, v_opt_s, v_nil, v_iconst, v_bipush, v_sipush, v_lconst0, v_lconst1, v_ldc, v_ldcw, v_ldc2, v_iload0, v_iload1, v_iload2, v_iload3, v_iload, v_lload0, v_lload1, v_lload2, v_lload3, v_lload, v_aload0, v_aload1, v_aload2, v_aload3, v_aload, v_istore0, v_istore1, v_istore2, v_istore3, v_istore, v_lstore0, v_lstore1, v_lstore2, v_lstore3, v_lstore, v_astore0, v_astore1, v_astore2, v_astore3, v_astore, v_iinc, v_iadd, v_isub, v_imul, v_iand, v_ior, v_ixor, v_ishl, v_ishr, v_iushr, v_ineg, v_idiv, v_irem, v_ladd, v_lsub, v_lmul, v_lcmp, v_i2l, v_l2i, v_i2c, v_dup, v_dup2, v_if_eq, v_if_ne, v_if_lt, v_if_ge, v_if_gt, v_if_le, v_ic_eq, v_ic_ne, v_ic_lt, v_ic_ge, v_ic_gt, v_ic_le, v_goto, v_tsw, v_lsw, v_ireturn, v_areturn, v_return, v_iaload, v_laload, v_baload, v_caload, v_aaload, v_iastore, v_lastore, v_bastore, v_castore, v_alen, v_invvi, v_invst, v_invsp, e_int, e_lng, e_ref, e_lg0, e_lg1, e_lg2, e_lg3, e_lg4, e_lg5, e_lg6, e_lg7, e_lg8, e_lg9, e_lg10, e_lg11, e_lg12, e_lg13, e_clrI, e_clrJ, e_clrP, e_clrN, e_s0, e_s1, e_s2, e_s3, e_s4, e_s5, e_s6, e_s7, e_s8, e_s9, e_s10, e_s11, e_s12, e_s13, e_t0, e_t1, e_t2, e_t3, e_t4, e_t5, e_t6, e_t7, e_t8, e_t9, e_t10, e_t11, e_t12, e_t13, e_fd, e_kk, e_k0, e_k1, e_k2, e_k3, e_k4, e_k5, e_k6, e_k7, e_k8, e_k9, e_sv0, e_sv1, e_sv2, e_sv3, e_svc, e_pf0, e_pf1, e_pf2, e_pf3, e_ar, e_aa, e_al, e_sw1, e_sw2, e_ct0, e_ct1, e_ct2, e_cat0, e_cat1, e_rk0, e_rk1, e_rk2, e_inv0, e_inv1, e_inv2, e_inv3, e_inv4, e_inv5, e_inv6, e_o0, e_o1, e_cl, e_cle, e_cg, e_cge, e_ce, e_cr1, e_cr2, e_r, e_R, e_up, Int.cast_ofNat_Int, u_app, false_and, and_false, e_b0, e_b1, e_bn, e_bl, e_bu, Int.reduceLE, Int.reduceLT, Int.reduceEq, Int.reduceNeg, Int.reduceAdd, Int.reduceSub, Int.reduceMul, Nat.reduceLeDiff, Nat.reduceLT, Nat.reduceAdd, Nat.reduceEqDiff, true_and, and_true, true_or, or_true, false_or, or_false, forall_const, not_true_eq_false, not_false_eq_true, true_implies, false_implies, implies_true, and_self, zero_ne_one, one_ne_zero, eq_self, reduceIte, s_X1_ofBoth_0, b_X1_ofBoth_0, s_X1_ofBoth_40, b_X1_ofBoth_40, s_X1_ofBoth_44, b_X1_ofBoth_44, s_X1_ofBoth_48, b_X1_ofBoth_48, s_X1_ofBoth_50, b_X1_ofBoth_50, s_X1_ofBoth_51, b_X1_ofBoth_51, s_X1_ofBoth_60, b_X1_ofBoth_60, s_X1_ofBoth_69, b_X1_ofBoth_69, s_X1_ofBoth_78, b_X1_ofBoth_78, s_X1_ofBoth_84, b_X1_ofBoth_84, ld_X1_100, G_X1_ofBoth_105, sp_X10_orGap_e, G_X1_ofBoth_109, sp_J9_min_7cf53_e, G_X1_ofBoth_114, sp_J9_max_7cf53_e]
    refine ⟨by omega, ?_⟩
    by_cases c : a < b
    · rw [if_pos c] at hk
      rw [if_pos (by omega)]
      exact hk
    · rw [if_neg c] at hk
      by_cases c2 : a ≤ b
      · rw [if_pos c2, show a = b by omega]
        exact hk
      · rw [if_neg c2]
        exact hk
  · refine hR 40 [] 0 _ _ _ rfl ?_
    simp only [v_opt_n, v_opt_s, v_nil, v_iconst, v_bipush, v_sipush, v_lconst0, v_lconst1, v_ldc, v_ldcw, v_ldc2, v_iload0, v_iload1, v_iload2, v_iload3, v_iload, v_lload0, v_lload1, v_lload2, v_lload3, v_lload, v_aload0, v_aload1, v_aload2, v_aload3, v_aload, v_istore0, v_istore1, v_istore2, v_istore3, v_istore, v_lstore0, v_lstore1, v_lstore2, v_lstore3, v_lstore, v_astore0, v_astore1, v_astore2, v_astore3, v_astore, v_iinc, v_iadd, v_isub, v_imul, v_iand, v_ior, v_ixor, v_ishl, v_ishr, v_iushr, v_ineg, v_idiv, v_irem, v_ladd, v_lsub, v_lmul, v_lcmp, v_i2l, v_l2i, v_i2c, v_dup, v_dup2, v_if_eq, v_if_ne, v_if_lt, v_if_ge, v_if_gt, v_if_le, v_ic_eq, v_ic_ne, v_ic_lt, v_ic_ge, v_ic_gt, v_ic_le, v_goto, v_tsw, v_lsw, v_ireturn, v_areturn, v_return, v_iaload, v_laload, v_baload, v_caload, v_aaload, v_iastore, v_lastore, v_bastore, v_castore, v_alen, v_invvi, v_invst, v_invsp, e_int, e_lng, e_ref, e_lg0, e_lg1, e_lg2, e_lg3, e_lg4, e_lg5, e_lg6, e_lg7, e_lg8, e_lg9, e_lg10, e_lg11, e_lg12, e_lg13, e_clrI, e_clrJ, e_clrP, e_clrN, e_s0, e_s1, e_s2, e_s3, e_s4, e_s5, e_s6, e_s7, e_s8, e_s9, e_s10, e_s11, e_s12, e_s13, e_t0, e_t1, e_t2, e_t3, e_t4, e_t5, e_t6, e_t7, e_t8, e_t9, e_t10, e_t11, e_t12, e_t13, e_fd, e_kk, e_k0, e_k1, e_k2, e_k3, e_k4, e_k5, e_k6, e_k7, e_k8, e_k9, e_sv0, e_sv1, e_sv2, e_sv3, e_svc, e_pf0, e_pf1, e_pf2, e_pf3, e_ar, e_aa, e_al, e_sw1, e_sw2, e_ct0, e_ct1, e_ct2, e_cat0, e_cat1, e_rk0, e_rk1, e_rk2, e_inv0, e_inv1, e_inv2, e_inv3, e_inv4, e_inv5, e_inv6, e_o0, e_o1, e_cl, e_cle, e_cg, e_cge, e_ce, e_cr1, e_cr2, e_r, e_R, e_up, Int.cast_ofNat_Int, u_app, false_and, and_false, e_b0, e_b1, e_bn, e_bl, e_bu, Int.reduceLE, Int.reduceLT, Int.reduceEq, Int.reduceNeg, Int.reduceAdd, Int.reduceSub, Int.reduceMul, Nat.reduceLeDiff, Nat.reduceLT, Nat.reduceAdd, Nat.reduceEqDiff, true_and, and_true, true_or, or_true, false_or, or_false, forall_const, not_true_eq_false, not_false_eq_true, true_implies, false_implies, implies_true, and_self, zero_ne_one, one_ne_zero, eq_self, reduceIte, s_X1_ofBoth_0, b_X1_ofBoth_0, s_X1_ofBoth_40, b_X1_ofBoth_40, s_X1_ofBoth_44, b_X1_ofBoth_44, s_X1_ofBoth_48, b_X1_ofBoth_48, s_X1_ofBoth_50, b_X1_ofBoth_50, s_X1_ofBoth_51, b_X1_ofBoth_51, s_X1_ofBoth_60, b_X1_ofBoth_60, s_X1_ofBoth_69, b_X1_ofBoth_69, s_X1_ofBoth_78, b_X1_ofBoth_78, s_X1_ofBoth_84, b_X1_ofBoth_84, ld_X1_100, G_X1_ofBoth_105, sp_X10_orGap_e, G_X1_ofBoth_109, sp_J9_min_7cf53_e, G_X1_ofBoth_114, sp_J9_max_7cf53_e]
    refine ⟨by omega, ?_⟩
    by_cases c : b < a
    · rw [if_pos c] at hk
      rw [if_pos (by omega)]
      exact hk
    · rw [if_neg c] at hk
      by_cases c2 : b ≤ a
      · rw [if_pos c2, show a = b by omega]
        exact hk
      · rw [if_neg c2]
        exact hk
  · refine hR 40 [] 0 _ _ _ rfl ?_
    simp only [v_opt_n, v_opt_s, v_nil, v_iconst, v_bipush, v_sipush, v_lconst0, v_lconst1, v_ldc, v_ldcw, v_ldc2, v_iload0, v_iload1, v_iload2, v_iload3, v_iload, v_lload0, v_lload1, v_lload2, v_lload3, v_lload, v_aload0, v_aload1, v_aload2, v_aload3, v_aload, v_istore0, v_istore1, v_istore2, v_istore3, v_istore, v_lstore0, v_lstore1, v_lstore2, v_lstore3, v_lstore, v_astore0, v_astore1, v_astore2, v_astore3, v_astore, v_iinc, v_iadd, v_isub, v_imul, v_iand, v_ior, v_ixor, v_ishl, v_ishr, v_iushr, v_ineg, v_idiv, v_irem, v_ladd, v_lsub, v_lmul, v_lcmp, v_i2l, v_l2i, v_i2c, v_dup, v_dup2, v_if_eq, v_if_ne, v_if_lt, v_if_ge, v_if_gt, v_if_le, v_ic_eq, v_ic_ne, v_ic_lt, v_ic_ge, v_ic_gt, v_ic_le, v_goto, v_tsw, v_lsw, v_ireturn, v_areturn, v_return, v_iaload, v_laload, v_baload, v_caload, v_aaload, v_iastore, v_lastore, v_bastore, v_castore, v_alen, v_invvi, v_invst, v_invsp, e_int, e_lng, e_ref, e_lg0, e_lg1, e_lg2, e_lg3, e_lg4, e_lg5, e_lg6, e_lg7, e_lg8, e_lg9, e_lg10, e_lg11, e_lg12, e_lg13, e_clrI, e_clrJ, e_clrP, e_clrN, e_s0, e_s1, e_s2, e_s3, e_s4, e_s5, e_s6, e_s7, e_s8, e_s9, e_s10, e_s11, e_s12, e_s13, e_t0, e_t1, e_t2, e_t3, e_t4, e_t5, e_t6, e_t7, e_t8, e_t9, e_t10, e_t11, e_t12, e_t13, e_fd, e_kk, e_k0, e_k1, e_k2, e_k3, e_k4, e_k5, e_k6, e_k7, e_k8, e_k9, e_sv0, e_sv1, e_sv2, e_sv3, e_svc, e_pf0, e_pf1, e_pf2, e_pf3, e_ar, e_aa, e_al, e_sw1, e_sw2, e_ct0, e_ct1, e_ct2, e_cat0, e_cat1, e_rk0, e_rk1, e_rk2, e_inv0, e_inv1, e_inv2, e_inv3, e_inv4, e_inv5, e_inv6, e_o0, e_o1, e_cl, e_cle, e_cg, e_cge, e_ce, e_cr1, e_cr2, e_r, e_R, e_up, Int.cast_ofNat_Int, u_app, false_and, and_false, e_b0, e_b1, e_bn, e_bl, e_bu, Int.reduceLE, Int.reduceLT, Int.reduceEq, Int.reduceNeg, Int.reduceAdd, Int.reduceSub, Int.reduceMul, Nat.reduceLeDiff, Nat.reduceLT, Nat.reduceAdd, Nat.reduceEqDiff, true_and, and_true, true_or, or_true, false_or, or_false, forall_const, not_true_eq_false, not_false_eq_true, true_implies, false_implies, implies_true, and_self, zero_ne_one, one_ne_zero, eq_self, reduceIte, s_X1_ofBoth_0, b_X1_ofBoth_0, s_X1_ofBoth_40, b_X1_ofBoth_40, s_X1_ofBoth_44, b_X1_ofBoth_44, s_X1_ofBoth_48, b_X1_ofBoth_48, s_X1_ofBoth_50, b_X1_ofBoth_50, s_X1_ofBoth_51, b_X1_ofBoth_51, s_X1_ofBoth_60, b_X1_ofBoth_60, s_X1_ofBoth_69, b_X1_ofBoth_69, s_X1_ofBoth_78, b_X1_ofBoth_78, s_X1_ofBoth_84, b_X1_ofBoth_84, ld_X1_100, G_X1_ofBoth_105, sp_X10_orGap_e, G_X1_ofBoth_109, sp_J9_min_7cf53_e, G_X1_ofBoth_114, sp_J9_max_7cf53_e]
    refine ⟨by omega, fun c => ?_, fun c => ?_⟩
    · rw [if_neg (by omega)] at hk
      exact hk
    · rw [if_pos (by omega)] at hk
      exact hk
set_option maxRecDepth 100000 in
theorem C_X1_ofBoth {l : Launch} {ad : Int → Nat} {D : va_G} {cy : Nat → ClassId} {Z : State → Prop} (hZ : q_Zg ad Z) : q_Ct l q_T q_N ad D cy Z yX1_ofBoth cX1_ofBoth 3 (some .int) rm_X1_ofBoth sp_X1_ofBoth := by
  obtain ⟨hf, hg, hld⟩ := q_chkS k_X1_ofBoth
  refine q_met (rk := 0) q_wokT (by decide) rfl hf hg hld rfl (q_skS L_X1_ofBoth o_X1_ofBoth) ?_ ?_ ?_ ?_ B_X1_ofBoth
  · intro i hi; exact absurd hi List.not_mem_nil
  · intro i hi; exact absurd hi List.not_mem_nil
  · intro i hi
    have hi : i = 105 ∨ i = 109 ∨ i = 114 := by simpa [u_X1_ofBoth] using hi
    rcases hi with rfl | rfl | rfl
    · exact q_crSN hZ.1 (C_X10_orGap hZ) cm_X10_orGap (fun s h => hZ.2 s h (RX1, 105, yX10_orGap, "BoardSums") (List.mem_of_getElem? (i := 3) rfl)) (by decide +kernel) (by decide +kernel) (by decide +kernel) ⟨rfl, rfl⟩ (by decide)
    · exact q_crMin (by decide +kernel) (by decide)
    · exact q_crMax (by decide +kernel) (by decide)
  · intro i hi; exact absurd hi List.not_mem_nil
theorem cm_X1_ofBoth : Cond.code yX1_ofBoth cX1_ofBoth 3 (some .int) ∈ q_tb := by decide +kernel
def c_sF (kind num sh A B C : Int) : Int := if kind = 0 then sh else if kind = 8 then (if A = -2000000000 then -2000000000 else if 0 < A then B else C) else if kind = 9 then (if A = -2000000000 then num else A) else q_cellOf kind A B
def sp_X1_single : QP := fun ra μ K => match ra with
  | [.inl place, .inr (.inr recipe), .inr (.inr this)] => this = 34 ∧ q_rc recipe ∧ (0 ≤ place ∧ place < 196) ∧ (0 ≤ μ recipe 2 ∧ μ recipe 2 ≤ 9 ∧ ¬ μ recipe 2 = 7) ∧ (μ recipe 2 = 0 → 0 ≤ μ recipe 4 ∧ μ recipe 4 ≤ 3) ∧ (∀ k : Int, 0 ≤ k → k < 3 → 0 ≤ μ (recipe + 10) k ∧ μ (recipe + 10) k < 10) ∧ (∀ k : Int, 0 ≤ k → k < m_mn (μ recipe 2) → m_vr (μ (24 + μ (recipe + 10) k) place)) ∧ K (some (.inl (c_sF (μ recipe 2) (μ recipe 4) (μ (4 + μ recipe 4) place) (μ (24 + μ (recipe + 10) 0) place) (μ (24 + μ (recipe + 10) 1) place) (μ (24 + μ (recipe + 10) 2) place)))) μ
  | _ => False
theorem sp_X1_single_e (this recipe place : Int) (μ : QM) (K : Option QV → QM → Prop) : sp_X1_single [.inl place, .inr (.inr recipe), .inr (.inr this)] μ K = (this = 34 ∧ q_rc recipe ∧ (0 ≤ place ∧ place < 196) ∧ (0 ≤ μ recipe 2 ∧ μ recipe 2 ≤ 9 ∧ ¬ μ recipe 2 = 7) ∧ (μ recipe 2 = 0 → 0 ≤ μ recipe 4 ∧ μ recipe 4 ≤ 3) ∧ (∀ k : Int, 0 ≤ k → k < 3 → 0 ≤ μ (recipe + 10) k ∧ μ (recipe + 10) k < 10) ∧ (∀ k : Int, 0 ≤ k → k < m_mn (μ recipe 2) → m_vr (μ (24 + μ (recipe + 10) k) place)) ∧ K (some (.inl (c_sF (μ recipe 2) (μ recipe 4) (μ (4 + μ recipe 4) place) (μ (24 + μ (recipe + 10) 0) place) (μ (24 + μ (recipe + 10) 1) place) (μ (24 + μ (recipe + 10) 2) place)))) μ) := propext Iff.rfl
theorem sp_X1_single_i {ra : List QV} {μ : QM} {K : Option QV → QM → Prop} (h : sp_X1_single ra μ K) : ∃ this recipe place : Int, ra = [.inl place, .inr (.inr recipe), .inr (.inr this)] ∧ (this = 34 ∧ q_rc recipe ∧ (0 ≤ place ∧ place < 196) ∧ (0 ≤ μ recipe 2 ∧ μ recipe 2 ≤ 9 ∧ ¬ μ recipe 2 = 7) ∧ (μ recipe 2 = 0 → 0 ≤ μ recipe 4 ∧ μ recipe 4 ≤ 3) ∧ (∀ k : Int, 0 ≤ k → k < 3 → 0 ≤ μ (recipe + 10) k ∧ μ (recipe + 10) k < 10) ∧ (∀ k : Int, 0 ≤ k → k < m_mn (μ recipe 2) → m_vr (μ (24 + μ (recipe + 10) k) place)) ∧ K (some (.inl (c_sF (μ recipe 2) (μ recipe 4) (μ (4 + μ recipe 4) place) (μ (24 + μ (recipe + 10) 0) place) (μ (24 + μ (recipe + 10) 1) place) (μ (24 + μ (recipe + 10) 2) place)))) μ) := by
  unfold sp_X1_single at h
  split at h
  · exact ⟨_, _, _, rfl, h⟩
  · exact h.elim
def rm_X1_single : Room := { frames := 2, cells := 0, slots := 0, locals := 43 }
def G_X1_single : Nat → Nat × QP := fun i => match i with
  | 101 => (3, sp_X1_ofBoth)
  | _ => (0, fun _ _ _ => False)
theorem G_X1_single_101 : G_X1_single 101 = (3, sp_X1_ofBoth) := id rfl
set_option maxRecDepth 100000 in
set_option maxRecDepth 100000 in
set_option maxHeartbeats 4000000 in
theorem B_X1_single : q_Body cX1_single 6 u_X1_single fl_X1 ld_X1 G_X1_single q_T 0 s_X1_single sp_X1_single := by
  intro S Rt hR ra μ h
  obtain ⟨this, recipe, place, rfl, h⟩ := sp_X1_single_i h
  refine ⟨by simp [q_sl, q_ct], ?_⟩
  show S 0 [some (.inr (.inr this)), some (.inr (.inr recipe)), some (.inl place), none, none, none] [] μ
  obtain ⟨rfl, hr, hp, hkd, h4, ho, hv, hk⟩ := h
  have hT := T_rec hr
  have hT2 := T_nmd hr
  have h0 : 0 ≤ recipe := by omega
  have o0 := ho 0 (by omega) (by omega)
  have o1 := ho 1 (by omega) (by omega)
  have o2 := ho 2 (by omega) (by omega)
  have t0 := T_val o0.1 o0.2
  have t1 := T_val o1.1 o1.2
  have t2 := T_val o2.1 o2.2
  unfold c_sF at hk
  by_cases k0 : μ recipe 2 = 0
  · obtain ⟨q1, q2⟩ := h4 k0
    have t4 := T_cell q1 (by omega)
    rw [if_pos k0] at hk
    refine hR 60 [] 0 _ _ _ rfl ?_
    simp only [v_opt_n, v_opt_s, v_nil, v_iconst, v_bipush, v_sipush, v_lconst0, v_lconst1, v_ldc, v_ldcw, v_ldc2, v_iload0, v_iload1, v_iload2, v_iload3, v_iload, v_lload0, v_lload1, v_lload2, v_lload3, v_lload, v_aload0, v_aload1, v_aload2, v_aload3, v_aload, v_istore0, v_istore1, v_istore2, v_istore3, v_istore, v_lstore0, v_lstore1, v_lstore2, v_lstore3, v_lstore, v_astore0, v_astore1, v_astore2, v_astore3, v_astore, v_iinc, v_iadd, v_isub, v_imul, v_iand, v_ior, v_ixor, v_ishl, v_ishr, v_iushr, v_ineg, v_idiv, v_irem, v_ladd, v_lsub, v_lmul, v_lcmp, v_i2l, v_l2i, v_i2c, v_dup, v_dup2, v_if_eq, v_if_ne, v_if_lt, v_if_ge, v_if_gt, v_if_le, v_ic_eq, v_ic_ne, v_ic_lt, v_ic_ge, v_ic_gt, v_ic_le, v_goto, v_tsw, v_lsw, v_ireturn, v_areturn, v_return, v_iaload, v_laload, v_baload, v_caload, v_aaload, v_iastore, v_lastore, v_bastore, v_castore, v_alen, v_invvi, v_invst, v_invsp, e_int, e_lng, e_ref, e_lg0, e_lg1, e_lg2, e_lg3, e_lg4, e_lg5, e_lg6, e_lg7, e_lg8, e_lg9, e_lg10, e_lg11, e_lg12, e_lg13, e_clrI, e_clrJ, e_clrP, e_clrN, e_s0, e_s1, e_s2, e_s3, e_s4, e_s5, e_s6, e_s7, e_s8, e_s9, e_s10, e_s11, e_s12, e_s13, e_t0, e_t1, e_t2, e_t3, e_t4, e_t5, e_t6, e_t7, e_t8, e_t9, e_t10, e_t11, e_t12, e_t13, e_fd, e_kk, e_k0, e_k1, e_k2, e_k3, e_k4, e_k5, e_k6, e_k7, e_k8, e_k9, e_sv0, e_sv1, e_sv2, e_sv3, e_svc, e_pf0, e_pf1, e_pf2, e_pf3, e_ar, e_aa, e_al, e_sw1, e_sw2, e_ct0, e_ct1, e_ct2, e_cat0, e_cat1, e_rk0, e_rk1, e_rk2, e_inv0, e_inv1, e_inv2, e_inv3, e_inv4, e_inv5, e_inv6, e_o0, e_o1, e_cl, e_cle, e_cg, e_cge, e_ce, e_cr1, e_cr2, e_r, e_R, e_up, Int.cast_ofNat_Int, u_app, false_and, and_false, e_b0, e_b1, e_bn, e_bl, e_bu, Int.reduceLE, Int.reduceLT, Int.reduceEq, Int.reduceNeg, Int.reduceAdd, Int.reduceSub, Int.reduceMul, Nat.reduceLeDiff, Nat.reduceLT, Nat.reduceAdd, Nat.reduceEqDiff, true_and, and_true, true_or, or_true, false_or, or_false, forall_const, not_true_eq_false, not_false_eq_true, true_implies, false_implies, implies_true, and_self, zero_ne_one, one_ne_zero, eq_self, reduceIte, v_getf, v_putf, s_X1_single_0, b_X1_single_0, s_X1_single_7, b_X1_single_7, s_X1_single_22, b_X1_single_22, s_X1_single_45, b_X1_single_45, s_X1_single_51, b_X1_single_51, s_X1_single_58, b_X1_single_58, s_X1_single_59, b_X1_single_59, s_X1_single_60, b_X1_single_60, s_X1_single_84, b_X1_single_84, s_X1_single_105, b_X1_single_105, s_X1_single_110, b_X1_single_110, s_X1_single_114, b_X1_single_114, s_X1_single_119, b_X1_single_119, s_X1_single_121, b_X1_single_121, s_X1_single_122, b_X1_single_122, s_X1_single_128, b_X1_single_128, s_X1_single_135, b_X1_single_135, s_X1_single_140, b_X1_single_140, s_X1_single_150, b_X1_single_150, fl_X1_60, fl_X1_33, T_34, fl_X1_92, T_2, fl_X1_97, fl_X1_37, fl_X1_74, ld_X1_100, G_X1_single_101, sp_X1_ofBoth_e, hT, k0, T_3, t4]
    exact ⟨h0, h0, by omega, by omega, by omega, hp.1, hp.2, hk⟩
  rw [if_neg k0] at hk
  have v0 := hv 0 (by omega) (by unfold m_mn; rw [if_neg k0]; split <;> (try split) <;> omega)
  refine hR 60 [] 0 _ _ _ rfl ?_
  simp only [v_opt_n, v_opt_s, v_nil, v_iconst, v_bipush, v_sipush, v_lconst0, v_lconst1, v_ldc, v_ldcw, v_ldc2, v_iload0, v_iload1, v_iload2, v_iload3, v_iload, v_lload0, v_lload1, v_lload2, v_lload3, v_lload, v_aload0, v_aload1, v_aload2, v_aload3, v_aload, v_istore0, v_istore1, v_istore2, v_istore3, v_istore, v_lstore0, v_lstore1, v_lstore2, v_lstore3, v_lstore, v_astore0, v_astore1, v_astore2, v_astore3, v_astore, v_iinc, v_iadd, v_isub, v_imul, v_iand, v_ior, v_ixor, v_ishl, v_ishr, v_iushr, v_ineg, v_idiv, v_irem, v_ladd, v_lsub, v_lmul, v_lcmp, v_i2l, v_l2i, v_i2c, v_dup, v_dup2, v_if_eq, v_if_ne, v_if_lt, v_if_ge, v_if_gt, v_if_le, v_ic_eq, v_ic_ne, v_ic_lt, v_ic_ge, v_ic_gt, v_ic_le, v_goto, v_tsw, v_lsw, v_ireturn, v_areturn, v_return, v_iaload, v_laload, v_baload, v_caload, v_aaload, v_iastore, v_lastore, v_bastore, v_castore, v_alen, v_invvi, v_invst, v_invsp, e_int, e_lng, e_ref, e_lg0, e_lg1, e_lg2, e_lg3, e_lg4, e_lg5, e_lg6, e_lg7, e_lg8, e_lg9, e_lg10, e_lg11, e_lg12, e_lg13, e_clrI, e_clrJ, e_clrP, e_clrN, e_s0, e_s1, e_s2, e_s3, e_s4, e_s5, e_s6, e_s7, e_s8, e_s9, e_s10, e_s11, e_s12, e_s13, e_t0, e_t1, e_t2, e_t3, e_t4, e_t5, e_t6, e_t7, e_t8, e_t9, e_t10, e_t11, e_t12, e_t13, e_fd, e_kk, e_k0, e_k1, e_k2, e_k3, e_k4, e_k5, e_k6, e_k7, e_k8, e_k9, e_sv0, e_sv1, e_sv2, e_sv3, e_svc, e_pf0, e_pf1, e_pf2, e_pf3, e_ar, e_aa, e_al, e_sw1, e_sw2, e_ct0, e_ct1, e_ct2, e_cat0, e_cat1, e_rk0, e_rk1, e_rk2, e_inv0, e_inv1, e_inv2, e_inv3, e_inv4, e_inv5, e_inv6, e_o0, e_o1, e_cl, e_cle, e_cg, e_cge, e_ce, e_cr1, e_cr2, e_r, e_R, e_up, Int.cast_ofNat_Int, u_app, false_and, and_false, e_b0, e_b1, e_bn, e_bl, e_bu, Int.reduceLE, Int.reduceLT, Int.reduceEq, Int.reduceNeg, Int.reduceAdd, Int.reduceSub, Int.reduceMul, Nat.reduceLeDiff, Nat.reduceLT, Nat.reduceAdd, Nat.reduceEqDiff, true_and, and_true, true_or, or_true, false_or, or_false, forall_const, not_true_eq_false, not_false_eq_true, true_implies, false_implies, implies_true, and_self, zero_ne_one, one_ne_zero, eq_self, reduceIte, v_getf, v_putf, s_X1_single_0, b_X1_single_0, s_X1_single_7, b_X1_single_7, s_X1_single_22, b_X1_single_22, s_X1_single_45, b_X1_single_45, s_X1_single_51, b_X1_single_51, s_X1_single_58, b_X1_single_58, s_X1_single_59, b_X1_single_59, s_X1_single_60, b_X1_single_60, s_X1_single_84, b_X1_single_84, s_X1_single_105, b_X1_single_105, s_X1_single_110, b_X1_single_110, s_X1_single_114, b_X1_single_114, s_X1_single_119, b_X1_single_119, s_X1_single_121, b_X1_single_121, s_X1_single_122, b_X1_single_122, s_X1_single_128, b_X1_single_128, s_X1_single_135, b_X1_single_135, s_X1_single_140, b_X1_single_140, s_X1_single_150, b_X1_single_150, fl_X1_60, fl_X1_33, T_34, fl_X1_92, T_2, fl_X1_97, fl_X1_37, fl_X1_74, ld_X1_100, G_X1_single_101, sp_X1_ofBoth_e, hT, hT2, T_23, t0, t1, t2]
  refine ⟨h0, by omega, fun _ => ⟨h0, o0.1, o0.2, by omega, hp.1, hp.2, h0, by omega, fun k9 => ?_, fun k9 => ?_⟩, fun c => absurd c k0⟩
  · have v1 := hv 1 (by omega) (by unfold m_mn; rw [if_neg k0]; split <;> (try split) <;> omega)
    refine ⟨h0, o1.1, o1.2, by omega, hp.1, hp.2, h0, by omega, fun k8 => ?_, fun k8 => ?_⟩
    · rw [if_neg k8, if_neg k9] at hk
      refine ⟨by omega, fun c => ?_, fun c => ⟨by omega, fun c1 => ⟨h0, by omega, ⟨v0, v1, c, c1⟩, hk⟩, fun c1 => ?_⟩⟩
      · unfold q_cellOf at hk
        rw [if_pos (Or.inl c)] at hk
        exact hk
      · unfold q_cellOf at hk
        rw [if_pos (Or.inr c1)] at hk
        exact hk
    · rw [if_pos k8] at hk
      refine ⟨h0, o2.1, o2.2, by omega, hp.1, hp.2, by omega, fun c => ⟨by omega, fun c1 => ?_, fun c1 => ?_⟩, fun c => ?_⟩
      · rw [if_neg c, if_neg (by omega)] at hk
        exact hk
      · rw [if_neg c, if_pos (by omega)] at hk
        exact hk
      · rw [if_pos c] at hk
        exact hk
  · rw [if_neg (by omega), if_pos k9] at hk
    refine ⟨by omega, fun c => ?_, fun c => ⟨h0, ?_⟩⟩
    · rw [if_neg c] at hk
      exact hk
    · rw [if_pos c] at hk
      exact hk
set_option maxRecDepth 100000 in
theorem C_X1_single {l : Launch} {ad : Int → Nat} {D : va_G} {cy : Nat → ClassId} {Z : State → Prop} (hZ : q_Zg ad Z) : q_Ct l q_T q_N ad D cy Z yX1_single cX1_single 6 (some .int) rm_X1_single sp_X1_single := by
  obtain ⟨hf, hg, hld⟩ := q_chkS k_X1_single
  refine q_met (rk := 0) q_wokT (by decide) rfl hf hg hld rfl (q_skS L_X1_single o_X1_single) ?_ ?_ ?_ ?_ B_X1_single
  · intro i hi; exact absurd hi List.not_mem_nil
  · intro i hi; exact absurd hi List.not_mem_nil
  · intro i hi
    have hi : i = 101 := by simpa [u_X1_single] using hi
    rcases hi with rfl
    · exact q_crS hZ.1 (C_X1_ofBoth hZ) cm_X1_ofBoth (by decide +kernel) (by decide +kernel) (by decide +kernel) (by decide +kernel) ⟨rfl, rfl⟩ (by decide)
  · intro i hi; exact absurd hi List.not_mem_nil
theorem rv_X1_single : q_rcv q_T yX1_single.cls sp_X1_single := by
  intro ra μ K h
  obtain ⟨this, recipe, place, rfl, h⟩ := sp_X1_single_i h
  obtain rfl := h.1
  exact ⟨[.inl place, .inr (.inr recipe)], 34, 1, _, _, rfl, T_34, rfl, rfl⟩
theorem cm_X1_single : Cond.code yX1_single cX1_single 6 (some .int) ∈ q_tb := by decide +kernel
/-! near -/
theorem m_tr_app (f : Int → Int) : ∀ (d e : Nat) (u : Int) (s : QT), m_tr f (d + e) u s = m_tr f e (u + d) (m_tr f d u s)
  | 0, e, u, s => by
    rw [Nat.zero_add, show u + ((0 : Nat) : Int) = u by omega]
    rfl
  | d + 1, e, u, s => by
    rw [show d + 1 + e = (d + e) + 1 by omega]
    show m_tr f (d + e) (u + 1) (m_tk (f u) s) = _
    rw [m_tr_app f d e (u + 1) (m_tk (f u) s), show u + 1 + (d : Int) = u + ((d + 1 : Nat) : Int) by omega]
    rfl
theorem m_tk_g (s : QT) : m_tk (-2000000000) s = s := if_pos rfl
theorem m_tr_g {f : Int → Int} : ∀ (d : Nat) (u : Int) (s : QT), (∀ j : Int, u ≤ j → j < u + d → f j = -2000000000) → m_tr f d u s = s
  | 0, u, s, _ => rfl
  | d + 1, u, s, h => by
    show m_tr f d (u + 1) (m_tk (f u) s) = s
    rw [h u (by omega) (by omega), m_tk_g]
    exact m_tr_g d (u + 1) s (fun j j0 j1 => h j (by omega) (by omega))
theorem m_trr_app (f : Int → Int → Int) (u0 : Int) (k : Nat) : ∀ (d e : Nat) (v : Int) (s : QT), m_trr f u0 k (d + e) v s = m_trr f u0 k e (v + d) (m_trr f u0 k d v s)
  | 0, e, v, s => by
    rw [Nat.zero_add, show v + ((0 : Nat) : Int) = v by omega]
    rfl
  | d + 1, e, v, s => by
    rw [show d + 1 + e = (d + e) + 1 by omega]
    show m_trr f u0 k (d + e) (v + 1) (m_tr (fun u => f u v) k u0 s) = _
    rw [m_trr_app f u0 k d e (v + 1), show v + 1 + (d : Int) = v + ((d + 1 : Nat) : Int) by omega]
    rfl
theorem m_trr_g {f : Int → Int → Int} {u0 : Int} {k : Nat} : ∀ (d : Nat) (v : Int) (s : QT), (∀ i j : Int, v ≤ j → j < v + d → f i j = -2000000000) → m_trr f u0 k d v s = s
  | 0, v, s, _ => rfl
  | d + 1, v, s, h => by
    show m_trr f u0 k d (v + 1) (m_tr (fun u => f u v) k u0 s) = s
    rw [m_tr_g k u0 s (fun j _ _ => h j v (by omega) (by omega))]
    exact m_trr_g d (v + 1) s (fun i j j0 j1 => h i j (by omega) (by omega))
/-- the row of a window, cut to the grid -/
theorem m_tr_cut {f : Int → Int} {a b : Int} {d : Nat} {u : Int} {s : QT} (hg : ∀ j : Int, u ≤ j → j < u + d → ¬ (a ≤ j ∧ j ≤ b) → f j = -2000000000) (h1 : u ≤ a) (h2 : a ≤ b + 1) (h3 : b + 1 ≤ u + d) : m_tr f d u s = m_tr f (b + 1 - a).toNat a s := by
  obtain ⟨e, he⟩ : ∃ e : Nat, d = (a - u).toNat + ((b + 1 - a).toNat + e) := ⟨d - (a - u).toNat - (b + 1 - a).toNat, by omega⟩
  rw [he, m_tr_app, m_tr_g (a - u).toNat u s (fun j j0 j1 => hg j (by omega) (by omega) (by omega)), show u + ((a - u).toNat : Int) = a by omega, m_tr_app]
  exact m_tr_g e _ _ (fun j j0 j1 => hg j (by omega) (by omega) (by omega))
theorem m_trr_cut {f : Int → Int → Int} {a b : Int} {k d : Nat} {u0 v : Int} {s : QT} (hg : ∀ i j : Int, v ≤ j → j < v + d → ¬ (a ≤ j ∧ j ≤ b) → f i j = -2000000000) (h1 : v ≤ a) (h2 : a ≤ b + 1) (h3 : b + 1 ≤ v + d) : m_trr f u0 k d v s = m_trr f u0 k (b + 1 - a).toNat a s := by
  obtain ⟨e, he⟩ : ∃ e : Nat, d = (a - v).toNat + ((b + 1 - a).toNat + e) := ⟨d - (a - v).toNat - (b + 1 - a).toNat, by omega⟩
  rw [he, m_trr_app, m_trr_g (a - v).toNat v s (fun i j j0 j1 => hg i j (by omega) (by omega) (by omega)), show v + ((a - v).toNat : Int) = a by omega, m_trr_app]
  exact m_trr_g e _ _ (fun i j j0 j1 => hg i j (by omega) (by omega) (by omega))
theorem m_trr_row {f g : Int → Int → Int} {u0 u1 : Int} {k l : Nat} : ∀ (d : Nat) (v : Int) (s : QT), (∀ (j : Int) (s : QT), v ≤ j → j < v + d → m_tr (fun u => f u j) k u0 s = m_tr (fun u => g u j) l u1 s) → m_trr f u0 k d v s = m_trr g u1 l d v s
  | 0, v, s, _ => rfl
  | d + 1, v, s, h => by
    show m_trr f u0 k d (v + 1) (m_tr (fun u => f u v) k u0 s) = m_trr g u1 l d (v + 1) (m_tr (fun u => g u v) l u1 s)
    rw [h v s (by omega) (by omega)]
    exact m_trr_row d (v + 1) _ (fun j s j0 j1 => h j s (by omega) (by omega))
abbrev c_mx (r x : Int) : Int := if x - r ≤ 0 then 0 else x - r
abbrev c_mi (w r x : Int) : Int := if w - 1 ≤ x + r then w - 1 else x + r
theorem c_mx_k (r x : Int) : (x - r ≤ 0 ∧ c_mx r x = 0) ∨ (0 < x - r ∧ c_mx r x = x - r) := by
  by_cases c : x - r ≤ 0
  · exact Or.inl ⟨c, if_pos c⟩
  · exact Or.inr ⟨by omega, if_neg c⟩
theorem c_mi_k (w r x : Int) : (w - 1 ≤ x + r ∧ c_mi w r x = w - 1) ∨ (x + r < w - 1 ∧ c_mi w r x = x + r) := by
  by_cases c : w - 1 ≤ x + r
  · exact Or.inl ⟨c, if_pos c⟩
  · exact Or.inr ⟨by omega, if_neg c⟩
theorem c_near {w h how r x y : Int} {A : Int → Int → Int} (hr : 1 ≤ r ∧ r ≤ 3) (hxy : m_in w h x y) : m_near9 w h how r A x y = m_ans how (m_trr A (c_mx r x) (c_mi w r x + 1 - c_mx r x).toNat (c_mi h r y + 1 - c_mx r y).toNat (c_mx r y) (0, 0, 0, 0)) := by
  unfold m_near9
  have x1 := c_mx_k r x
  have y1 := c_mx_k r y
  have x2 := c_mi_k w r x
  have y2 := c_mi_k h r y
  congr 1
  generalize c_mx r x = a at *
  generalize c_mx r y = c at *
  generalize c_mi w r x = b at *
  generalize c_mi h r y = e at *
  rw [m_trr_cut (a := c) (b := e) (fun i j j0 j1 hn => if_neg (fun q => by omega)) (by omega) (by omega) (by omega)]
  refine m_trr_row _ _ _ (fun j s j0 j1 => ?_)
  rw [m_tr_cut (a := a) (b := b) (fun i i0 i1 hn => if_neg (fun q => by omega)) (by omega) (by omega) (by omega)]
  exact m_tr_cg _ _ _ (fun i i0 i1 => if_pos (by omega))

