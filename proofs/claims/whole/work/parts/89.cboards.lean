/-! the class: boards (its contract waits for the texts) -/
abbrev c_bok (T : Int → Int) (L : Int) (n : Nat) : Prop := (m_rs T L n).1 = 0 ∧ m_kd T L (m_rs T L n).2 = 0
def sp_X10_boards : QP := fun ra μ K => match ra with
  | [.inr (.inr this)] => this = 0 ∧ ∃ P Q : Int, q_pl P ∧ q_pl Q ∧ μ 0 5 = P ∧ μ 0 6 = Q ∧ m_tp (μ 14) (μ 13 1) ∧ ∃ n : Nat, m_run (μ 14) (μ 13 1) n ∧ ∀ ν : QM, c_df μ Q ν → ν 15 1 = Q → (c_bok (μ 14) (μ 13 1) n → ν Q 2 = n + 1 → c_rs (μ 14) (μ 13 1) Q (n + 1) ν → K (some (.inl (n + 1))) (q_up (q_fill (q_up (q_up (q_up (q_up (q_up ν 0 7 (-1)) 13 1 0) 0 5 Q) 0 6 P) 20 5 Q) 21 0 10 0) 0 8 0)) ∧ (¬ c_bok (μ 14) (μ 13 1) n → K (some (.inl (-6))) (q_up (q_up (q_up ν 0 7 (m_pl (μ 14) (μ 13 1) (m_rs (μ 14) (μ 13 1) n).2)) 13 1 0) 0 8 (-6)))
  | _ => False
theorem sp_X10_boards_e (this : Int) (μ : QM) (K : Option QV → QM → Prop) : sp_X10_boards [.inr (.inr this)] μ K = (this = 0 ∧ ∃ P Q : Int, q_pl P ∧ q_pl Q ∧ μ 0 5 = P ∧ μ 0 6 = Q ∧ m_tp (μ 14) (μ 13 1) ∧ ∃ n : Nat, m_run (μ 14) (μ 13 1) n ∧ ∀ ν : QM, c_df μ Q ν → ν 15 1 = Q → (c_bok (μ 14) (μ 13 1) n → ν Q 2 = n + 1 → c_rs (μ 14) (μ 13 1) Q (n + 1) ν → K (some (.inl (n + 1))) (q_up (q_fill (q_up (q_up (q_up (q_up (q_up ν 0 7 (-1)) 13 1 0) 0 5 Q) 0 6 P) 20 5 Q) 21 0 10 0) 0 8 0)) ∧ (¬ c_bok (μ 14) (μ 13 1) n → K (some (.inl (-6))) (q_up (q_up (q_up ν 0 7 (m_pl (μ 14) (μ 13 1) (m_rs (μ 14) (μ 13 1) n).2)) 13 1 0) 0 8 (-6)))) := propext Iff.rfl
theorem sp_X10_boards_i {ra : List QV} {μ : QM} {K : Option QV → QM → Prop} (h : sp_X10_boards ra μ K) : ∃ this : Int, ra = [.inr (.inr this)] ∧ (this = 0 ∧ ∃ P Q : Int, q_pl P ∧ q_pl Q ∧ μ 0 5 = P ∧ μ 0 6 = Q ∧ m_tp (μ 14) (μ 13 1) ∧ ∃ n : Nat, m_run (μ 14) (μ 13 1) n ∧ ∀ ν : QM, c_df μ Q ν → ν 15 1 = Q → (c_bok (μ 14) (μ 13 1) n → ν Q 2 = n + 1 → c_rs (μ 14) (μ 13 1) Q (n + 1) ν → K (some (.inl (n + 1))) (q_up (q_fill (q_up (q_up (q_up (q_up (q_up ν 0 7 (-1)) 13 1 0) 0 5 Q) 0 6 P) 20 5 Q) 21 0 10 0) 0 8 0)) ∧ (¬ c_bok (μ 14) (μ 13 1) n → K (some (.inl (-6))) (q_up (q_up (q_up ν 0 7 (m_pl (μ 14) (μ 13 1) (m_rs (μ 14) (μ 13 1) n).2)) 13 1 0) 0 8 (-6)))) := by
  unfold sp_X10_boards at h
  split at h
  · exact ⟨_, rfl, h⟩
  · exact h.elim
def rm_X10_boards : Room := { frames := 12, cells := 0, slots := 0, locals := 281 }
def G_X10_boards : Nat → Nat × QP := fun i => match i with
  | 117 => (2, sp_X3_read)
  | 69 => (2, sp_X10_refuse)
  | 121 => (2, sp_X9_follow)
  | 81 => (2, sp_X10_accept)
  | _ => (0, fun _ _ _ => False)
theorem G_X10_boards_117 : G_X10_boards 117 = (2, sp_X3_read) := id rfl
theorem G_X10_boards_69 : G_X10_boards 69 = (2, sp_X10_refuse) := id rfl
theorem G_X10_boards_121 : G_X10_boards 121 = (2, sp_X9_follow) := id rfl
theorem G_X10_boards_81 : G_X10_boards 81 = (2, sp_X10_accept) := id rfl
set_option maxRecDepth 100000 in
set_option maxHeartbeats 4000000 in
theorem B_X10_boards : q_Body cX10_boards 2 u_X10_boards fl_X10 ld_X10 G_X10_boards q_T 0 s_X10_boards sp_X10_boards := by
  intro S Rt hR ra μ h
  obtain ⟨this, rfl, h⟩ := sp_X10_boards_i h
  refine ⟨by simp [q_sl, q_ct], ?_⟩
  show S 0 [some (.inr (.inr this)), none] [] μ
  obtain ⟨rfl, P, Q, hP, hQ, e5, e6, htp, n, hr, hk⟩ := h
  have hTP := T_plan hP
  have hTQ := T_plan hQ
  refine hR 60 [] 0 _ _ _ rfl ?_
  simp only [v_opt_n, v_opt_s, v_nil, v_iconst, v_bipush, v_sipush, v_lconst0, v_lconst1, v_ldc, v_ldcw, v_ldc2, v_iload0, v_iload1, v_iload2, v_iload3, v_iload, v_lload0, v_lload1, v_lload2, v_lload3, v_lload, v_aload0, v_aload1, v_aload2, v_aload3, v_aload, v_istore0, v_istore1, v_istore2, v_istore3, v_istore, v_lstore0, v_lstore1, v_lstore2, v_lstore3, v_lstore, v_astore0, v_astore1, v_astore2, v_astore3, v_astore, v_iinc, v_iadd, v_isub, v_imul, v_iand, v_ior, v_ixor, v_ishl, v_ishr, v_iushr, v_ineg, v_idiv, v_irem, v_ladd, v_lsub, v_lmul, v_lcmp, v_i2l, v_l2i, v_i2c, v_dup, v_dup2, v_if_eq, v_if_ne, v_if_lt, v_if_ge, v_if_gt, v_if_le, v_ic_eq, v_ic_ne, v_ic_lt, v_ic_ge, v_ic_gt, v_ic_le, v_goto, v_tsw, v_lsw, v_ireturn, v_areturn, v_return, v_iaload, v_laload, v_baload, v_caload, v_aaload, v_iastore, v_lastore, v_bastore, v_castore, v_alen, v_invvi, v_invst, v_invsp, e_int, e_lng, e_ref, e_lg0, e_lg1, e_lg2, e_lg3, e_lg4, e_lg5, e_lg6, e_lg7, e_lg8, e_lg9, e_lg10, e_lg11, e_lg12, e_lg13, e_clrI, e_clrJ, e_clrP, e_clrN, e_s0, e_s1, e_s2, e_s3, e_s4, e_s5, e_s6, e_s7, e_s8, e_s9, e_s10, e_s11, e_s12, e_s13, e_t0, e_t1, e_t2, e_t3, e_t4, e_t5, e_t6, e_t7, e_t8, e_t9, e_t10, e_t11, e_t12, e_t13, e_fd, e_kk, e_k0, e_k1, e_k2, e_k3, e_k4, e_k5, e_k6, e_k7, e_k8, e_k9, e_sv0, e_sv1, e_sv2, e_sv3, e_svc, e_pf0, e_pf1, e_pf2, e_pf3, e_ar, e_aa, e_al, e_sw1, e_sw2, e_ct0, e_ct1, e_ct2, e_cat0, e_cat1, e_rk0, e_rk1, e_rk2, e_inv0, e_inv1, e_inv2, e_inv3, e_inv4, e_inv5, e_inv6, e_o0, e_o1, e_cl, e_cle, e_cg, e_cge, e_ce, e_cr1, e_cr2, e_r, e_R, e_up, Int.cast_ofNat_Int, u_app, false_and, and_false, e_b0, e_b1, e_bn, e_bl, e_bu, Int.reduceLE, Int.reduceLT, Int.reduceEq, Int.reduceNeg, Int.reduceAdd, Int.reduceSub, Int.reduceMul, Nat.reduceLeDiff, Nat.reduceLT, Nat.reduceAdd, Nat.reduceEqDiff, true_and, and_true, true_or, or_true, false_or, or_false, forall_const, not_true_eq_false, not_false_eq_true, true_implies, false_implies, implies_true, and_self, zero_ne_one, one_ne_zero, eq_self, reduceIte, v_getf, v_putf, s_X10_boards_0, b_X10_boards_0, s_X10_boards_31, b_X10_boards_31, s_X10_boards_38, b_X10_boards_38, fl_X10_45, T_0, fl_X10_37, fl_X10_58, fl_X10_26, fl_X10_114, T_13, fl_X10_33, fl_X10_54, fl_X10_125, G_X10_boards_117, sp_X3_read_e, G_X10_boards_69, sp_X10_refuse_e, G_X10_boards_121, sp_X9_follow_e, G_X10_boards_81, sp_X10_accept_e, e5, e6, hTP, hTQ]
  refine ⟨hQ, htp, n, hr, fun ν f e15 => ⟨fun q1 q2 q3 => ?_, fun q1 => ?_⟩⟩
  · have v5 : ν 0 5 = P := (f.1 0 5 (by omega) (by omega) (by omega)).trans e5
    have v6 : ν 0 6 = Q := (f.1 0 6 (by omega) (by omega) (by omega)).trans e6
    rw [v5, v6]
    have c5 : q_fill (q_up (q_up (q_up (q_up (q_up ν 0 7 (-1)) 13 1 0) 0 5 Q) 0 6 P) 20 5 Q) 21 0 10 0 0 5 = Q := by
      rw [u_fill, if_neg (by omega), u_app, if_neg (by omega), u_app, if_neg (by omega), u_app, if_pos ⟨rfl, rfl⟩]
    have c2 : q_fill (q_up (q_up (q_up (q_up (q_up ν 0 7 (-1)) 13 1 0) 0 5 Q) 0 6 P) 20 5 Q) 21 0 10 0 Q 2 = n + 1 := by
      rw [u_fill, if_neg (by omega), u_app, if_neg (by omega), u_app, if_neg (by omega), u_app, if_neg (by omega), u_app, if_neg (by omega), u_app, if_neg (by omega)]
      exact q2
    rw [c5]
    simp only [v_opt_n, v_opt_s, v_nil, v_iconst, v_bipush, v_sipush, v_lconst0, v_lconst1, v_ldc, v_ldcw, v_ldc2, v_iload0, v_iload1, v_iload2, v_iload3, v_iload, v_lload0, v_lload1, v_lload2, v_lload3, v_lload, v_aload0, v_aload1, v_aload2, v_aload3, v_aload, v_istore0, v_istore1, v_istore2, v_istore3, v_istore, v_lstore0, v_lstore1, v_lstore2, v_lstore3, v_lstore, v_astore0, v_astore1, v_astore2, v_astore3, v_astore, v_iinc, v_iadd, v_isub, v_imul, v_iand, v_ior, v_ixor, v_ishl, v_ishr, v_iushr, v_ineg, v_idiv, v_irem, v_ladd, v_lsub, v_lmul, v_lcmp, v_i2l, v_l2i, v_i2c, v_dup, v_dup2, v_if_eq, v_if_ne, v_if_lt, v_if_ge, v_if_gt, v_if_le, v_ic_eq, v_ic_ne, v_ic_lt, v_ic_ge, v_ic_gt, v_ic_le, v_goto, v_tsw, v_lsw, v_ireturn, v_areturn, v_return, v_iaload, v_laload, v_baload, v_caload, v_aaload, v_iastore, v_lastore, v_bastore, v_castore, v_alen, v_invvi, v_invst, v_invsp, e_int, e_lng, e_ref, e_lg0, e_lg1, e_lg2, e_lg3, e_lg4, e_lg5, e_lg6, e_lg7, e_lg8, e_lg9, e_lg10, e_lg11, e_lg12, e_lg13, e_clrI, e_clrJ, e_clrP, e_clrN, e_s0, e_s1, e_s2, e_s3, e_s4, e_s5, e_s6, e_s7, e_s8, e_s9, e_s10, e_s11, e_s12, e_s13, e_t0, e_t1, e_t2, e_t3, e_t4, e_t5, e_t6, e_t7, e_t8, e_t9, e_t10, e_t11, e_t12, e_t13, e_fd, e_kk, e_k0, e_k1, e_k2, e_k3, e_k4, e_k5, e_k6, e_k7, e_k8, e_k9, e_sv0, e_sv1, e_sv2, e_sv3, e_svc, e_pf0, e_pf1, e_pf2, e_pf3, e_ar, e_aa, e_al, e_sw1, e_sw2, e_ct0, e_ct1, e_ct2, e_cat0, e_cat1, e_rk0, e_rk1, e_rk2, e_inv0, e_inv1, e_inv2, e_inv3, e_inv4, e_inv5, e_inv6, e_o0, e_o1, e_cl, e_cle, e_cg, e_cge, e_ce, e_cr1, e_cr2, e_r, e_R, e_up, Int.cast_ofNat_Int, u_app, false_and, and_false, e_b0, e_b1, e_bn, e_bl, e_bu, Int.reduceLE, Int.reduceLT, Int.reduceEq, Int.reduceNeg, Int.reduceAdd, Int.reduceSub, Int.reduceMul, Nat.reduceLeDiff, Nat.reduceLT, Nat.reduceAdd, Nat.reduceEqDiff, true_and, and_true, true_or, or_true, false_or, or_false, forall_const, not_true_eq_false, not_false_eq_true, true_implies, false_implies, implies_true, and_self, zero_ne_one, one_ne_zero, eq_self, reduceIte, v_getf, v_putf, s_X10_boards_0, b_X10_boards_0, s_X10_boards_31, b_X10_boards_31, s_X10_boards_38, b_X10_boards_38, fl_X10_45, T_0, fl_X10_37, fl_X10_58, fl_X10_26, fl_X10_114, T_13, fl_X10_33, fl_X10_54, fl_X10_125, G_X10_boards_117, sp_X3_read_e, G_X10_boards_69, sp_X10_refuse_e, G_X10_boards_121, sp_X9_follow_e, G_X10_boards_81, sp_X10_accept_e, hTQ, c2]
    exact ⟨by omega, by omega, by omega, (hk ν f e15).1 q1 q2 q3⟩
  · have hb := (m_tk_b htp (m_rs (μ 14) (μ 13 1) n).2).1
    have hl := htp.1
    exact ⟨by omega, fun q => by omega, fun _ => (hk ν f e15).2 q1⟩

