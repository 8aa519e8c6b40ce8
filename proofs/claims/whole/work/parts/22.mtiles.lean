/-! the reference: what a tile needs -/
abbrev m_dim (w h : Int) : Prop := 2 ≤ w ∧ w ≤ 12 ∧ 2 ≤ h ∧ h ≤ 12
def m_sub (w h s : Int) : Prop := q_mk s ∧ ∀ t : Nat, q_bit s t = true → m_tl w h (t : Int)
def sp_X11_staleAll : QP := fun ra μ K => match ra with
  | [.inr (.inr this)] => this = 85 ∧ K none (q_fill μ 94 0 90 0)
  | _ => False
theorem sp_X11_staleAll_e (this : Int) (μ : QM) (K : Option QV → QM → Prop) : sp_X11_staleAll [.inr (.inr this)] μ K = (this = 85 ∧ K none (q_fill μ 94 0 90 0)) := propext Iff.rfl
theorem sp_X11_staleAll_i {ra : List QV} {μ : QM} {K : Option QV → QM → Prop} (h : sp_X11_staleAll ra μ K) : ∃ this : Int, ra = [.inr (.inr this)] ∧ (this = 85 ∧ K none (q_fill μ 94 0 90 0)) := by
  unfold sp_X11_staleAll at h
  split at h
  · exact ⟨_, rfl, h⟩
  · exact h.elim
def rm_X11_staleAll : Room := { frames := 0, cells := 0, slots := 0, locals := 0 }
def G_X11_staleAll : Nat → Nat × QP := fun i => match i with
  | _ => (0, fun _ _ _ => False)
theorem staleAll_loop {Rt : Option QV → QM → Prop} {S : Nat → QL → List QV → QM → Prop} (hR : q_Rule cX11_staleAll 2 u_X11_staleAll fl_X11 ld_X11 G_X11_staleAll q_T 4 s_X11_staleAll Rt S) : ∀ (n : Nat) (i : Int) (μ : QM), 0 ≤ i → i ≤ 90 → 90 - i < n → Rt none (q_fill μ 94 i 90 0) → S 2 [some (.inr (.inr 85)), some (.inl i)] [] μ := by
  intro n
  induction n with
  | zero => intro i μ h1 h2 h3; omega
  | succ n ih =>
    intro i μ h1 h2 h3 h4
    refine hR 40 b_X11_staleAll_2 2 _ _ _ o_X11_staleAll_2 ?_
    simp only [v_opt_n, v_opt_s, v_nil, v_iconst, v_bipush, v_sipush, v_lconst0, v_lconst1, v_ldc, v_ldcw, v_ldc2, v_iload0, v_iload1, v_iload2, v_iload3, v_iload, v_lload0, v_lload1, v_lload2, v_lload3, v_lload, v_aload0, v_aload1, v_aload2, v_aload3, v_aload, v_istore0, v_istore1, v_istore2, v_istore3, v_istore, v_lstore0, v_lstore1, v_lstore2, v_lstore3, v_lstore, v_astore0, v_astore1, v_astore2, v_astore3, v_astore, v_iinc, v_iadd, v_isub, v_imul, v_iand, v_ior, v_ixor, v_ishl, v_ishr, v_iushr, v_ineg, v_idiv, v_irem, v_ladd, v_lsub, v_lmul, v_lcmp, v_i2l, v_l2i, v_i2c, v_dup, v_dup2, v_if_eq, v_if_ne, v_if_lt, v_if_ge, v_if_gt, v_if_le, v_ic_eq, v_ic_ne, v_ic_lt, v_ic_ge, v_ic_gt, v_ic_le, v_goto, v_tsw, v_lsw, v_ireturn, v_areturn, v_return, v_iaload, v_laload, v_baload, v_caload, v_aaload, v_iastore, v_lastore, v_bastore, v_castore, v_alen, v_invvi, v_invst, v_invsp, e_int, e_lng, e_ref, e_lg0, e_lg1, e_lg2, e_lg3, e_lg4, e_lg5, e_lg6, e_lg7, e_lg8, e_lg9, e_lg10, e_lg11, e_lg12, e_lg13, e_clrI, e_clrJ, e_clrP, e_clrN, e_s0, e_s1, e_s2, e_s3, e_s4, e_s5, e_s6, e_s7, e_s8, e_s9, e_s10, e_s11, e_s12, e_s13, e_t0, e_t1, e_t2, e_t3, e_t4, e_t5, e_t6, e_t7, e_t8, e_t9, e_t10, e_t11, e_t12, e_t13, e_fd, e_kk, e_k0, e_k1, e_k2, e_k3, e_k4, e_k5, e_k6, e_k7, e_k8, e_k9, e_sv0, e_sv1, e_sv2, e_sv3, e_svc, e_pf0, e_pf1, e_pf2, e_pf3, e_ar, e_aa, e_al, e_sw1, e_sw2, e_ct0, e_ct1, e_ct2, e_cat0, e_cat1, e_rk0, e_rk1, e_rk2, e_inv0, e_inv1, e_inv2, e_inv3, e_inv4, e_inv5, e_inv6, e_o0, e_o1, e_cl, e_cle, e_cg, e_cge, e_ce, e_cr1, e_cr2, e_r, e_R, e_up, Int.cast_ofNat_Int, u_app, false_and, and_false, e_b0, e_b1, e_bn, e_bl, e_bu, Int.reduceLE, Int.reduceLT, Int.reduceEq, Int.reduceNeg, Int.reduceAdd, Int.reduceSub, Int.reduceMul, Nat.reduceLeDiff, Nat.reduceLT, Nat.reduceAdd, Nat.reduceEqDiff, true_and, and_true, true_or, or_true, false_or, or_false, forall_const, not_true_eq_false, not_false_eq_true, true_implies, false_implies, implies_true, and_self, zero_ne_one, one_ne_zero, eq_self, reduceIte, s_X11_staleAll_0, b_X11_staleAll_0, s_X11_staleAll_2, b_X11_staleAll_2, s_X11_staleAll_8, b_X11_staleAll_8, s_X11_staleAll_21, b_X11_staleAll_21, g_X11_42, T_94]
    refine ⟨by omega, fun c => ?_, fun c => ?_⟩
    · rw [q_fill_e (by omega)] at h4
      exact h4
    · refine ⟨by omega, by omega, ih (i + 1) _ (by omega) (by omega) (by omega) ?_⟩
      rw [q_fill_s (by omega)]
      exact h4
set_option maxRecDepth 100000 in
set_option maxHeartbeats 4000000 in
theorem B_X11_staleAll : q_Body cX11_staleAll 2 u_X11_staleAll fl_X11 ld_X11 G_X11_staleAll q_T 4 s_X11_staleAll sp_X11_staleAll := by
  intro S Rt hR ra μ h
  obtain ⟨this, rfl, h⟩ := sp_X11_staleAll_i h
  refine ⟨by simp [q_sl, q_ct], ?_⟩
  show S 0 [some (.inr (.inr this)), none] [] μ
  obtain ⟨rfl, h2⟩ := h
  refine hR 40 [] 0 _ _ _ rfl ?_
  simp only [v_opt_n, v_opt_s, v_nil, v_iconst, v_bipush, v_sipush, v_lconst0, v_lconst1, v_ldc, v_ldcw, v_ldc2, v_iload0, v_iload1, v_iload2, v_iload3, v_iload, v_lload0, v_lload1, v_lload2, v_lload3, v_lload, v_aload0, v_aload1, v_aload2, v_aload3, v_aload, v_istore0, v_istore1, v_istore2, v_istore3, v_istore, v_lstore0, v_lstore1, v_lstore2, v_lstore3, v_lstore, v_astore0, v_astore1, v_astore2, v_astore3, v_astore, v_iinc, v_iadd, v_isub, v_imul, v_iand, v_ior, v_ixor, v_ishl, v_ishr, v_iushr, v_ineg, v_idiv, v_irem, v_ladd, v_lsub, v_lmul, v_lcmp, v_i2l, v_l2i, v_i2c, v_dup, v_dup2, v_if_eq, v_if_ne, v_if_lt, v_if_ge, v_if_gt, v_if_le, v_ic_eq, v_ic_ne, v_ic_lt, v_ic_ge, v_ic_gt, v_ic_le, v_goto, v_tsw, v_lsw, v_ireturn, v_areturn, v_return, v_iaload, v_laload, v_baload, v_caload, v_aaload, v_iastore, v_lastore, v_bastore, v_castore, v_alen, v_invvi, v_invst, v_invsp, e_int, e_lng, e_ref, e_lg0, e_lg1, e_lg2, e_lg3, e_lg4, e_lg5, e_lg6, e_lg7, e_lg8, e_lg9, e_lg10, e_lg11, e_lg12, e_lg13, e_clrI, e_clrJ, e_clrP, e_clrN, e_s0, e_s1, e_s2, e_s3, e_s4, e_s5, e_s6, e_s7, e_s8, e_s9, e_s10, e_s11, e_s12, e_s13, e_t0, e_t1, e_t2, e_t3, e_t4, e_t5, e_t6, e_t7, e_t8, e_t9, e_t10, e_t11, e_t12, e_t13, e_fd, e_kk, e_k0, e_k1, e_k2, e_k3, e_k4, e_k5, e_k6, e_k7, e_k8, e_k9, e_sv0, e_sv1, e_sv2, e_sv3, e_svc, e_pf0, e_pf1, e_pf2, e_pf3, e_ar, e_aa, e_al, e_sw1, e_sw2, e_ct0, e_ct1, e_ct2, e_cat0, e_cat1, e_rk0, e_rk1, e_rk2, e_inv0, e_inv1, e_inv2, e_inv3, e_inv4, e_inv5, e_inv6, e_o0, e_o1, e_cl, e_cle, e_cg, e_cge, e_ce, e_cr1, e_cr2, e_r, e_R, e_up, Int.cast_ofNat_Int, u_app, false_and, and_false, e_b0, e_b1, e_bn, e_bl, e_bu, Int.reduceLE, Int.reduceLT, Int.reduceEq, Int.reduceNeg, Int.reduceAdd, Int.reduceSub, Int.reduceMul, Nat.reduceLeDiff, Nat.reduceLT, Nat.reduceAdd, Nat.reduceEqDiff, true_and, and_true, true_or, or_true, false_or, or_false, forall_const, not_true_eq_false, not_false_eq_true, true_implies, false_implies, implies_true, and_self, zero_ne_one, one_ne_zero, eq_self, reduceIte, s_X11_staleAll_0, b_X11_staleAll_0, s_X11_staleAll_2, b_X11_staleAll_2, s_X11_staleAll_8, b_X11_staleAll_8, s_X11_staleAll_21, b_X11_staleAll_21, g_X11_42]
  exact staleAll_loop hR 91 0 μ (by omega) (by omega) (by omega) h2
set_option maxRecDepth 100000 in
theorem C_X11_staleAll {l : Launch} {ad : Int → Nat} {D : va_G} {cy : Nat → ClassId} {Z : State → Prop} (hZ : q_Zg ad Z) : q_Ct l q_T q_N ad D cy Z yX11_staleAll cX11_staleAll 2 none rm_X11_staleAll sp_X11_staleAll := by
  obtain ⟨hf, hg, hld⟩ := q_chkS k_X11_staleAll
  refine q_met (rk := 4) q_wokT (by decide) rfl hf hg hld rfl (q_skS L_X11_staleAll o_X11_staleAll) ?_ ?_ ?_ ?_ B_X11_staleAll
  · intro i hi; exact absurd hi List.not_mem_nil
  · intro i hi; exact absurd hi List.not_mem_nil
  · intro i hi; exact absurd hi List.not_mem_nil
  · intro i hi; exact absurd hi List.not_mem_nil
theorem rv_X11_staleAll : q_rcv q_T yX11_staleAll.cls sp_X11_staleAll := by
  intro ra μ K h
  obtain ⟨this, rfl, h⟩ := sp_X11_staleAll_i h
  obtain rfl := h.1
  exact ⟨[], 85, 11, _, _, rfl, T_85, rfl, rfl⟩
theorem cm_X11_staleAll : Cond.code yX11_staleAll cX11_staleAll 2 none ∈ q_tb := by decide +kernel
def sp_X11_clearSheets : QP := fun ra μ K => match ra with
  | [.inr (.inr this)] => this = 85 ∧ K none (q_fill (q_fill (q_fill μ 86 0 576 (-2000000000)) 88 0 3 0) 94 0 90 0)
  | _ => False
theorem sp_X11_clearSheets_e (this : Int) (μ : QM) (K : Option QV → QM → Prop) : sp_X11_clearSheets [.inr (.inr this)] μ K = (this = 85 ∧ K none (q_fill (q_fill (q_fill μ 86 0 576 (-2000000000)) 88 0 3 0) 94 0 90 0)) := propext Iff.rfl
theorem sp_X11_clearSheets_i {ra : List QV} {μ : QM} {K : Option QV → QM → Prop} (h : sp_X11_clearSheets ra μ K) : ∃ this : Int, ra = [.inr (.inr this)] ∧ (this = 85 ∧ K none (q_fill (q_fill (q_fill μ 86 0 576 (-2000000000)) 88 0 3 0) 94 0 90 0)) := by
  unfold sp_X11_clearSheets at h
  split at h
  · exact ⟨_, rfl, h⟩
  · exact h.elim
def rm_X11_clearSheets : Room := { frames := 1, cells := 0, slots := 0, locals := 21 }
def G_X11_clearSheets : Nat → Nat × QP := fun i => match i with
  | 92 => (1, sp_X11_staleAll)
  | _ => (0, fun _ _ _ => False)
theorem G_X11_clearSheets_92 : G_X11_clearSheets 92 = (1, sp_X11_staleAll) := id rfl
theorem clearSheets_loop2 {Rt : Option QV → QM → Prop} {S : Nat → QL → List QV → QM → Prop} (hR : q_Rule cX11_clearSheets 2 u_X11_clearSheets fl_X11 ld_X11 G_X11_clearSheets q_T 4 s_X11_clearSheets Rt S) : ∀ (n : Nat) (i : Int) (μ : QM), 0 ≤ i → i ≤ 3 → 3 - i < n → Rt none (q_fill (q_fill μ 88 i 3 0) 94 0 90 0) → S 25 [some (.inr (.inr 85)), some (.inl i)] [] μ := by
  intro n
  induction n with
  | zero => intro i μ h1 h2 h3; omega
  | succ n ih =>
    intro i μ h1 h2 h3 h4
    refine hR 40 b_X11_clearSheets_25 25 _ _ _ o_X11_clearSheets_25 ?_
    simp only [v_opt_n, v_opt_s, v_nil, v_iconst, v_bipush, v_sipush, v_lconst0, v_lconst1, v_ldc, v_ldcw, v_ldc2, v_iload0, v_iload1, v_iload2, v_iload3, v_iload, v_lload0, v_lload1, v_lload2, v_lload3, v_lload, v_aload0, v_aload1, v_aload2, v_aload3, v_aload, v_istore0, v_istore1, v_istore2, v_istore3, v_istore, v_lstore0, v_lstore1, v_lstore2, v_lstore3, v_lstore, v_astore0, v_astore1, v_astore2, v_astore3, v_astore, v_iinc, v_iadd, v_isub, v_imul, v_iand, v_ior, v_ixor, v_ishl, v_ishr, v_iushr, v_ineg, v_idiv, v_irem, v_ladd, v_lsub, v_lmul, v_lcmp, v_i2l, v_l2i, v_i2c, v_dup, v_dup2, v_if_eq, v_if_ne, v_if_lt, v_if_ge, v_if_gt, v_if_le, v_ic_eq, v_ic_ne, v_ic_lt, v_ic_ge, v_ic_gt, v_ic_le, v_goto, v_tsw, v_lsw, v_ireturn, v_areturn, v_return, v_iaload, v_laload, v_baload, v_caload, v_aaload, v_iastore, v_lastore, v_bastore, v_castore, v_alen, v_invvi, v_invst, v_invsp, e_int, e_lng, e_ref, e_lg0, e_lg1, e_lg2, e_lg3, e_lg4, e_lg5, e_lg6, e_lg7, e_lg8, e_lg9, e_lg10, e_lg11, e_lg12, e_lg13, e_clrI, e_clrJ, e_clrP, e_clrN, e_s0, e_s1, e_s2, e_s3, e_s4, e_s5, e_s6, e_s7, e_s8, e_s9, e_s10, e_s11, e_s12, e_s13, e_t0, e_t1, e_t2, e_t3, e_t4, e_t5, e_t6, e_t7, e_t8, e_t9, e_t10, e_t11, e_t12, e_t13, e_fd, e_kk, e_k0, e_k1, e_k2, e_k3, e_k4, e_k5, e_k6, e_k7, e_k8, e_k9, e_sv0, e_sv1, e_sv2, e_sv3, e_svc, e_pf0, e_pf1, e_pf2, e_pf3, e_ar, e_aa, e_al, e_sw1, e_sw2, e_ct0, e_ct1, e_ct2, e_cat0, e_cat1, e_rk0, e_rk1, e_rk2, e_inv0, e_inv1, e_inv2, e_inv3, e_inv4, e_inv5, e_inv6, e_o0, e_o1, e_cl, e_cle, e_cg, e_cge, e_ce, e_cr1, e_cr2, e_r, e_R, e_up, Int.cast_ofNat_Int, u_app, false_and, and_false, e_b0, e_b1, e_bn, e_bl, e_bu, Int.reduceLE, Int.reduceLT, Int.reduceEq, Int.reduceNeg, Int.reduceAdd, Int.reduceSub, Int.reduceMul, Nat.reduceLeDiff, Nat.reduceLT, Nat.reduceAdd, Nat.reduceEqDiff, true_and, and_true, true_or, or_true, false_or, or_false, forall_const, not_true_eq_false, not_false_eq_true, true_implies, false_implies, implies_true, and_self, zero_ne_one, one_ne_zero, eq_self, reduceIte, s_X11_clearSheets_0, b_X11_clearSheets_0, s_X11_clearSheets_2, b_X11_clearSheets_2, s_X11_clearSheets_9, b_X11_clearSheets_9, s_X11_clearSheets_23, b_X11_clearSheets_23, s_X11_clearSheets_25, b_X11_clearSheets_25, s_X11_clearSheets_30, b_X11_clearSheets_30, s_X11_clearSheets_43, b_X11_clearSheets_43, g_X11_16, g_X11_23, ld_X11_91, G_X11_clearSheets_92, sp_X11_staleAll_e, T_88]
    refine ⟨by omega, fun c => ?_, fun c => ?_⟩
    · rw [q_fill_e (a := 88) (by omega)] at h4
      exact h4
    · refine ⟨by omega, by omega, ih (i + 1) _ (by omega) (by omega) (by omega) ?_⟩
      rw [q_fill_s (by omega)]
      exact h4
theorem clearSheets_loop {Rt : Option QV → QM → Prop} {S : Nat → QL → List QV → QM → Prop} (hR : q_Rule cX11_clearSheets 2 u_X11_clearSheets fl_X11 ld_X11 G_X11_clearSheets q_T 4 s_X11_clearSheets Rt S) : ∀ (n : Nat) (i : Int) (μ : QM), 0 ≤ i → i ≤ 576 → 576 - i < n → Rt none (q_fill (q_fill (q_fill μ 86 i 576 (-2000000000)) 88 0 3 0) 94 0 90 0) → S 2 [some (.inr (.inr 85)), some (.inl i)] [] μ := by
  intro n
  induction n with
  | zero => intro i μ h1 h2 h3; omega
  | succ n ih =>
    intro i μ h1 h2 h3 h4
    refine hR 40 b_X11_clearSheets_2 2 _ _ _ o_X11_clearSheets_2 ?_
    simp only [v_opt_n, v_opt_s, v_nil, v_iconst, v_bipush, v_sipush, v_lconst0, v_lconst1, v_ldc, v_ldcw, v_ldc2, v_iload0, v_iload1, v_iload2, v_iload3, v_iload, v_lload0, v_lload1, v_lload2, v_lload3, v_lload, v_aload0, v_aload1, v_aload2, v_aload3, v_aload, v_istore0, v_istore1, v_istore2, v_istore3, v_istore, v_lstore0, v_lstore1, v_lstore2, v_lstore3, v_lstore, v_astore0, v_astore1, v_astore2, v_astore3, v_astore, v_iinc, v_iadd, v_isub, v_imul, v_iand, v_ior, v_ixor, v_ishl, v_ishr, v_iushr, v_ineg, v_idiv, v_irem, v_ladd, v_lsub, v_lmul, v_lcmp, v_i2l, v_l2i, v_i2c, v_dup, v_dup2, v_if_eq, v_if_ne, v_if_lt, v_if_ge, v_if_gt, v_if_le, v_ic_eq, v_ic_ne, v_ic_lt, v_ic_ge, v_ic_gt, v_ic_le, v_goto, v_tsw, v_lsw, v_ireturn, v_areturn, v_return, v_iaload, v_laload, v_baload, v_caload, v_aaload, v_iastore, v_lastore, v_bastore, v_castore, v_alen, v_invvi, v_invst, v_invsp, e_int, e_lng, e_ref, e_lg0, e_lg1, e_lg2, e_lg3, e_lg4, e_lg5, e_lg6, e_lg7, e_lg8, e_lg9, e_lg10, e_lg11, e_lg12, e_lg13, e_clrI, e_clrJ, e_clrP, e_clrN, e_s0, e_s1, e_s2, e_s3, e_s4, e_s5, e_s6, e_s7, e_s8, e_s9, e_s10, e_s11, e_s12, e_s13, e_t0, e_t1, e_t2, e_t3, e_t4, e_t5, e_t6, e_t7, e_t8, e_t9, e_t10, e_t11, e_t12, e_t13, e_fd, e_kk, e_k0, e_k1, e_k2, e_k3, e_k4, e_k5, e_k6, e_k7, e_k8, e_k9, e_sv0, e_sv1, e_sv2, e_sv3, e_svc, e_pf0, e_pf1, e_pf2, e_pf3, e_ar, e_aa, e_al, e_sw1, e_sw2, e_ct0, e_ct1, e_ct2, e_cat0, e_cat1, e_rk0, e_rk1, e_rk2, e_inv0, e_inv1, e_inv2, e_inv3, e_inv4, e_inv5, e_inv6, e_o0, e_o1, e_cl, e_cle, e_cg, e_cge, e_ce, e_cr1, e_cr2, e_r, e_R, e_up, Int.cast_ofNat_Int, u_app, false_and, and_false, e_b0, e_b1, e_bn, e_bl, e_bu, Int.reduceLE, Int.reduceLT, Int.reduceEq, Int.reduceNeg, Int.reduceAdd, Int.reduceSub, Int.reduceMul, Nat.reduceLeDiff, Nat.reduceLT, Nat.reduceAdd, Nat.reduceEqDiff, true_and, and_true, true_or, or_true, false_or, or_false, forall_const, not_true_eq_false, not_false_eq_true, true_implies, false_implies, implies_true, and_self, zero_ne_one, one_ne_zero, eq_self, reduceIte, s_X11_clearSheets_0, b_X11_clearSheets_0, s_X11_clearSheets_2, b_X11_clearSheets_2, s_X11_clearSheets_9, b_X11_clearSheets_9, s_X11_clearSheets_23, b_X11_clearSheets_23, s_X11_clearSheets_25, b_X11_clearSheets_25, s_X11_clearSheets_30, b_X11_clearSheets_30, s_X11_clearSheets_43, b_X11_clearSheets_43, g_X11_16, g_X11_23, ld_X11_91, G_X11_clearSheets_92, sp_X11_staleAll_e, T_86]
    refine ⟨by omega, fun c => ?_, fun c => ?_⟩
    · rw [q_fill_e (a := 86) (by omega)] at h4
      exact clearSheets_loop2 hR 4 0 μ (by omega) (by omega) (by omega) h4
    · refine ⟨by omega, by omega, ih (i + 1) _ (by omega) (by omega) (by omega) ?_⟩
      rw [q_fill_s (by omega)]
      exact h4
set_option maxRecDepth 100000 in
set_option maxHeartbeats 4000000 in
theorem B_X11_clearSheets : q_Body cX11_clearSheets 2 u_X11_clearSheets fl_X11 ld_X11 G_X11_clearSheets q_T 4 s_X11_clearSheets sp_X11_clearSheets := by
  intro S Rt hR ra μ h
  obtain ⟨this, rfl, h⟩ := sp_X11_clearSheets_i h
  refine ⟨by simp [q_sl, q_ct], ?_⟩
  show S 0 [some (.inr (.inr this)), none] [] μ
  obtain ⟨rfl, h2⟩ := h
  refine hR 40 [] 0 _ _ _ rfl ?_
  simp only [v_opt_n, v_opt_s, v_nil, v_iconst, v_bipush, v_sipush, v_lconst0, v_lconst1, v_ldc, v_ldcw, v_ldc2, v_iload0, v_iload1, v_iload2, v_iload3, v_iload, v_lload0, v_lload1, v_lload2, v_lload3, v_lload, v_aload0, v_aload1, v_aload2, v_aload3, v_aload, v_istore0, v_istore1, v_istore2, v_istore3, v_istore, v_lstore0, v_lstore1, v_lstore2, v_lstore3, v_lstore, v_astore0, v_astore1, v_astore2, v_astore3, v_astore, v_iinc, v_iadd, v_isub, v_imul, v_iand, v_ior, v_ixor, v_ishl, v_ishr, v_iushr, v_ineg, v_idiv, v_irem, v_ladd, v_lsub, v_lmul, v_lcmp, v_i2l, v_l2i, v_i2c, v_dup, v_dup2, v_if_eq, v_if_ne, v_if_lt, v_if_ge, v_if_gt, v_if_le, v_ic_eq, v_ic_ne, v_ic_lt, v_ic_ge, v_ic_gt, v_ic_le, v_goto, v_tsw, v_lsw, v_ireturn, v_areturn, v_return, v_iaload, v_laload, v_baload, v_caload, v_aaload, v_iastore, v_lastore, v_bastore, v_castore, v_alen, v_invvi, v_invst, v_invsp, e_int, e_lng, e_ref, e_lg0, e_lg1, e_lg2, e_lg3, e_lg4, e_lg5, e_lg6, e_lg7, e_lg8, e_lg9, e_lg10, e_lg11, e_lg12, e_lg13, e_clrI, e_clrJ, e_clrP, e_clrN, e_s0, e_s1, e_s2, e_s3, e_s4, e_s5, e_s6, e_s7, e_s8, e_s9, e_s10, e_s11, e_s12, e_s13, e_t0, e_t1, e_t2, e_t3, e_t4, e_t5, e_t6, e_t7, e_t8, e_t9, e_t10, e_t11, e_t12, e_t13, e_fd, e_kk, e_k0, e_k1, e_k2, e_k3, e_k4, e_k5, e_k6, e_k7, e_k8, e_k9, e_sv0, e_sv1, e_sv2, e_sv3, e_svc, e_pf0, e_pf1, e_pf2, e_pf3, e_ar, e_aa, e_al, e_sw1, e_sw2, e_ct0, e_ct1, e_ct2, e_cat0, e_cat1, e_rk0, e_rk1, e_rk2, e_inv0, e_inv1, e_inv2, e_inv3, e_inv4, e_inv5, e_inv6, e_o0, e_o1, e_cl, e_cle, e_cg, e_cge, e_ce, e_cr1, e_cr2, e_r, e_R, e_up, Int.cast_ofNat_Int, u_app, false_and, and_false, e_b0, e_b1, e_bn, e_bl, e_bu, Int.reduceLE, Int.reduceLT, Int.reduceEq, Int.reduceNeg, Int.reduceAdd, Int.reduceSub, Int.reduceMul, Nat.reduceLeDiff, Nat.reduceLT, Nat.reduceAdd, Nat.reduceEqDiff, true_and, and_true, true_or, or_true, false_or, or_false, forall_const, not_true_eq_false, not_false_eq_true, true_implies, false_implies, implies_true, and_self, zero_ne_one, one_ne_zero, eq_self, reduceIte, s_X11_clearSheets_0, b_X11_clearSheets_0, s_X11_clearSheets_2, b_X11_clearSheets_2, s_X11_clearSheets_9, b_X11_clearSheets_9, s_X11_clearSheets_23, b_X11_clearSheets_23, s_X11_clearSheets_25, b_X11_clearSheets_25, s_X11_clearSheets_30, b_X11_clearSheets_30, s_X11_clearSheets_43, b_X11_clearSheets_43, g_X11_16, g_X11_23, ld_X11_91, G_X11_clearSheets_92, sp_X11_staleAll_e]
  exact clearSheets_loop hR 577 0 μ (by omega) (by omega) (by omega) h2
set_option maxRecDepth 100000 in
theorem C_X11_clearSheets {l : Launch} {ad : Int → Nat} {D : va_G} {cy : Nat → ClassId} {Z : State → Prop} (hZ : q_Zg ad Z) : q_Ct l q_T q_N ad D cy Z yX11_clearSheets cX11_clearSheets 2 none rm_X11_clearSheets sp_X11_clearSheets := by
  obtain ⟨hf, hg, hld⟩ := q_chkS k_X11_clearSheets
  refine q_met (rk := 4) q_wokT (by decide) rfl hf hg hld rfl (q_skS L_X11_clearSheets o_X11_clearSheets) ?_ ?_ ?_ ?_ B_X11_clearSheets
  · intro i hi; exact absurd hi List.not_mem_nil
  · intro i hi
    have hi : i = 92 := by simpa [u_X11_clearSheets] using hi
    rcases hi with rfl
    · exact q_crV hZ.1 (C_X11_staleAll hZ) rv_X11_staleAll cm_X11_staleAll (by decide +kernel) (by decide +kernel) (by decide +kernel) (by decide +kernel) (by decide +kernel) ⟨rfl, rfl⟩ (by decide)
  · intro i hi; exact absurd hi List.not_mem_nil
  · intro i hi; exact absurd hi List.not_mem_nil
theorem rv_X11_clearSheets : q_rcv q_T yX11_clearSheets.cls sp_X11_clearSheets := by
  intro ra μ K h
  obtain ⟨this, rfl, h⟩ := sp_X11_clearSheets_i h
  obtain rfl := h.1
  exact ⟨[], 85, 11, _, _, rfl, T_85, rfl, rfl⟩
theorem cm_X11_clearSheets : Cond.code yX11_clearSheets cX11_clearSheets 2 none ∈ q_tb := by decide +kernel
theorem q_tmn_s (w h : Int) (n : Nat) : q_tmn w h (n + 1) = q_or (q_tmn w h n) (if m_tl w h (n : Int) then q_shl 1 (n : Int) else 0) := rfl
def sp_X11_allTiles : QP := fun ra μ K => match ra with
  | [.inr (.inr this)] => this = 85 ∧ (q_r (μ 85 2) ∧ q_r (μ 85 3)) ∧ K (some (.inl (q_tm (μ 85 2) (μ 85 3)))) μ
  | _ => False
theorem sp_X11_allTiles_e (this : Int) (μ : QM) (K : Option QV → QM → Prop) : sp_X11_allTiles [.inr (.inr this)] μ K = (this = 85 ∧ (q_r (μ 85 2) ∧ q_r (μ 85 3)) ∧ K (some (.inl (q_tm (μ 85 2) (μ 85 3)))) μ) := propext Iff.rfl
theorem sp_X11_allTiles_i {ra : List QV} {μ : QM} {K : Option QV → QM → Prop} (h : sp_X11_allTiles ra μ K) : ∃ this : Int, ra = [.inr (.inr this)] ∧ (this = 85 ∧ (q_r (μ 85 2) ∧ q_r (μ 85 3)) ∧ K (some (.inl (q_tm (μ 85 2) (μ 85 3)))) μ) := by
  unfold sp_X11_allTiles at h
  split at h
  · exact ⟨_, rfl, h⟩
  · exact h.elim
def rm_X11_allTiles : Room := { frames := 2, cells := 0, slots := 0, locals := 46 }
def G_X11_allTiles : Nat → Nat × QP := fun i => match i with
  | 134 => (2, sp_X11_isTile)
  | _ => (0, fun _ _ _ => False)
theorem G_X11_allTiles_134 : G_X11_allTiles 134 = (2, sp_X11_isTile) := id rfl
set_option maxRecDepth 100000 in
theorem allTiles_loop {Rt : Option QV → QM → Prop} {S : Nat → QL → List QV → QM → Prop} (hR : q_Rule cX11_allTiles 3 u_X11_allTiles fl_X11 ld_X11 G_X11_allTiles q_T 0 s_X11_allTiles Rt S) {μ : QM} (hw : q_r (μ 85 2) ∧ q_r (μ 85 3)) (hk : Rt (some (.inl (q_tm (μ 85 2) (μ 85 3)))) μ) : ∀ (n i : Nat), i + n = 9 → S 4 [some (.inr (.inr 85)), some (.inl (q_tmn (μ 85 2) (μ 85 3) i)), some (.inl (i : Int))] [] μ := by
  intro n
  induction n with
  | zero =>
    intro i h1
    obtain rfl : i = 9 := by omega
    refine hR 40 b_X11_allTiles_4 4 _ _ _ o_X11_allTiles_4 ?_
    simp only [v_opt_n, v_opt_s, v_nil, v_iconst, v_bipush, v_sipush, v_lconst0, v_lconst1, v_ldc, v_ldcw, v_ldc2, v_iload0, v_iload1, v_iload2, v_iload3, v_iload, v_lload0, v_lload1, v_lload2, v_lload3, v_lload, v_aload0, v_aload1, v_aload2, v_aload3, v_aload, v_istore0, v_istore1, v_istore2, v_istore3, v_istore, v_lstore0, v_lstore1, v_lstore2, v_lstore3, v_lstore, v_astore0, v_astore1, v_astore2, v_astore3, v_astore, v_iinc, v_iadd, v_isub, v_imul, v_iand, v_ior, v_ixor, v_ishl, v_ishr, v_iushr, v_ineg, v_idiv, v_irem, v_ladd, v_lsub, v_lmul, v_lcmp, v_i2l, v_l2i, v_i2c, v_dup, v_dup2, v_if_eq, v_if_ne, v_if_lt, v_if_ge, v_if_gt, v_if_le, v_ic_eq, v_ic_ne, v_ic_lt, v_ic_ge, v_ic_gt, v_ic_le, v_goto, v_tsw, v_lsw, v_ireturn, v_areturn, v_return, v_iaload, v_laload, v_baload, v_caload, v_aaload, v_iastore, v_lastore, v_bastore, v_castore, v_alen, v_invvi, v_invst, v_invsp, e_int, e_lng, e_ref, e_lg0, e_lg1, e_lg2, e_lg3, e_lg4, e_lg5, e_lg6, e_lg7, e_lg8, e_lg9, e_lg10, e_lg11, e_lg12, e_lg13, e_clrI, e_clrJ, e_clrP, e_clrN, e_s0, e_s1, e_s2, e_s3, e_s4, e_s5, e_s6, e_s7, e_s8, e_s9, e_s10, e_s11, e_s12, e_s13, e_t0, e_t1, e_t2, e_t3, e_t4, e_t5, e_t6, e_t7, e_t8, e_t9, e_t10, e_t11, e_t12, e_t13, e_fd, e_kk, e_k0, e_k1, e_k2, e_k3, e_k4, e_k5, e_k6, e_k7, e_k8, e_k9, e_sv0, e_sv1, e_sv2, e_sv3, e_svc, e_pf0, e_pf1, e_pf2, e_pf3, e_ar, e_aa, e_al, e_sw1, e_sw2, e_ct0, e_ct1, e_ct2, e_cat0, e_cat1, e_rk0, e_rk1, e_rk2, e_inv0, e_inv1, e_inv2, e_inv3, e_inv4, e_inv5, e_inv6, e_o0, e_o1, e_cl, e_cle, e_cg, e_cge, e_ce, e_cr1, e_cr2, e_r, e_R, e_up, Int.cast_ofNat_Int, u_app, false_and, and_false, e_b0, e_b1, e_bn, e_bl, e_bu, Int.reduceLE, Int.reduceLT, Int.reduceEq, Int.reduceNeg, Int.reduceAdd, Int.reduceSub, Int.reduceMul, Nat.reduceLeDiff, Nat.reduceLT, Nat.reduceAdd, Nat.reduceEqDiff, true_and, and_true, true_or, or_true, false_or, or_false, forall_const, not_true_eq_false, not_false_eq_true, true_implies, false_implies, implies_true, and_self, zero_ne_one, one_ne_zero, eq_self, reduceIte, s_X11_allTiles_0, b_X11_allTiles_0, s_X11_allTiles_4, b_X11_allTiles_4, s_X11_allTiles_10, b_X11_allTiles_10, s_X11_allTiles_19, b_X11_allTiles_19, s_X11_allTiles_25, b_X11_allTiles_25, s_X11_allTiles_26, b_X11_allTiles_26, s_X11_allTiles_34, b_X11_allTiles_34, G_X11_allTiles_134, sp_X11_isTile_e]
    exact hk
  | succ n ih =>
    intro i h1
    refine hR 40 b_X11_allTiles_4 4 _ _ _ o_X11_allTiles_4 ?_
    simp only [v_opt_n, v_opt_s, v_nil, v_iconst, v_bipush, v_sipush, v_lconst0, v_lconst1, v_ldc, v_ldcw, v_ldc2, v_iload0, v_iload1, v_iload2, v_iload3, v_iload, v_lload0, v_lload1, v_lload2, v_lload3, v_lload, v_aload0, v_aload1, v_aload2, v_aload3, v_aload, v_istore0, v_istore1, v_istore2, v_istore3, v_istore, v_lstore0, v_lstore1, v_lstore2, v_lstore3, v_lstore, v_astore0, v_astore1, v_astore2, v_astore3, v_astore, v_iinc, v_iadd, v_isub, v_imul, v_iand, v_ior, v_ixor, v_ishl, v_ishr, v_iushr, v_ineg, v_idiv, v_irem, v_ladd, v_lsub, v_lmul, v_lcmp, v_i2l, v_l2i, v_i2c, v_dup, v_dup2, v_if_eq, v_if_ne, v_if_lt, v_if_ge, v_if_gt, v_if_le, v_ic_eq, v_ic_ne, v_ic_lt, v_ic_ge, v_ic_gt, v_ic_le, v_goto, v_tsw, v_lsw, v_ireturn, v_areturn, v_return, v_iaload, v_laload, v_baload, v_caload, v_aaload, v_iastore, v_lastore, v_bastore, v_castore, v_alen, v_invvi, v_invst, v_invsp, e_int, e_lng, e_ref, e_lg0, e_lg1, e_lg2, e_lg3, e_lg4, e_lg5, e_lg6, e_lg7, e_lg8, e_lg9, e_lg10, e_lg11, e_lg12, e_lg13, e_clrI, e_clrJ, e_clrP, e_clrN, e_s0, e_s1, e_s2, e_s3, e_s4, e_s5, e_s6, e_s7, e_s8, e_s9, e_s10, e_s11, e_s12, e_s13, e_t0, e_t1, e_t2, e_t3, e_t4, e_t5, e_t6, e_t7, e_t8, e_t9, e_t10, e_t11, e_t12, e_t13, e_fd, e_kk, e_k0, e_k1, e_k2, e_k3, e_k4, e_k5, e_k6, e_k7, e_k8, e_k9, e_sv0, e_sv1, e_sv2, e_sv3, e_svc, e_pf0, e_pf1, e_pf2, e_pf3, e_ar, e_aa, e_al, e_sw1, e_sw2, e_ct0, e_ct1, e_ct2, e_cat0, e_cat1, e_rk0, e_rk1, e_rk2, e_inv0, e_inv1, e_inv2, e_inv3, e_inv4, e_inv5, e_inv6, e_o0, e_o1, e_cl, e_cle, e_cg, e_cge, e_ce, e_cr1, e_cr2, e_r, e_R, e_up, Int.cast_ofNat_Int, u_app, false_and, and_false, e_b0, e_b1, e_bn, e_bl, e_bu, Int.reduceLE, Int.reduceLT, Int.reduceEq, Int.reduceNeg, Int.reduceAdd, Int.reduceSub, Int.reduceMul, Nat.reduceLeDiff, Nat.reduceLT, Nat.reduceAdd, Nat.reduceEqDiff, true_and, and_true, true_or, or_true, false_or, or_false, forall_const, not_true_eq_false, not_false_eq_true, true_implies, false_implies, implies_true, and_self, zero_ne_one, one_ne_zero, eq_self, reduceIte, s_X11_allTiles_0, b_X11_allTiles_0, s_X11_allTiles_4, b_X11_allTiles_4, s_X11_allTiles_10, b_X11_allTiles_10, s_X11_allTiles_19, b_X11_allTiles_19, s_X11_allTiles_25, b_X11_allTiles_25, s_X11_allTiles_26, b_X11_allTiles_26, s_X11_allTiles_34, b_X11_allTiles_34, G_X11_allTiles_134, sp_X11_isTile_e]
    have e1 : ((i + 1 : Nat) : Int) = (i : Int) + 1 := by omega
    have ih := ih (i + 1) (by omega)
    rw [e1, q_tmn_s] at ih
    refine ⟨by omega, fun c => by omega, fun c => ⟨by omega, fun c2 => ?_, fun c2 => ?_⟩⟩
    · rw [if_neg c2] at ih
      exact ih
    · rw [if_pos (Classical.not_not.mp c2)] at ih
      exact ih
set_option maxRecDepth 100000 in
set_option maxHeartbeats 4000000 in
theorem B_X11_allTiles : q_Body cX11_allTiles 3 u_X11_allTiles fl_X11 ld_X11 G_X11_allTiles q_T 0 s_X11_allTiles sp_X11_allTiles := by
  intro S Rt hR ra μ h
  obtain ⟨this, rfl, h⟩ := sp_X11_allTiles_i h
  refine ⟨by simp [q_sl, q_ct], ?_⟩
  show S 0 [some (.inr (.inr this)), none, none] [] μ
  obtain ⟨rfl, h1, h2⟩ := h
  refine hR 40 [] 0 _ _ _ rfl ?_
  simp only [v_opt_n, v_opt_s, v_nil, v_iconst, v_bipush, v_sipush, v_lconst0, v_lconst1, v_ldc, v_ldcw, v_ldc2, v_iload0, v_iload1, v_iload2, v_iload3, v_iload, v_lload0, v_lload1, v_lload2, v_lload3, v_lload, v_aload0, v_aload1, v_aload2, v_aload3, v_aload, v_istore0, v_istore1, v_istore2, v_istore3, v_istore, v_lstore0, v_lstore1, v_lstore2, v_lstore3, v_lstore, v_astore0, v_astore1, v_astore2, v_astore3, v_astore, v_iinc, v_iadd, v_isub, v_imul, v_iand, v_ior, v_ixor, v_ishl, v_ishr, v_iushr, v_ineg, v_idiv, v_irem, v_ladd, v_lsub, v_lmul, v_lcmp, v_i2l, v_l2i, v_i2c, v_dup, v_dup2, v_if_eq, v_if_ne, v_if_lt, v_if_ge, v_if_gt, v_if_le, v_ic_eq, v_ic_ne, v_ic_lt, v_ic_ge, v_ic_gt, v_ic_le, v_goto, v_tsw, v_lsw, v_ireturn, v_areturn, v_return, v_iaload, v_laload, v_baload, v_caload, v_aaload, v_iastore, v_lastore, v_bastore, v_castore, v_alen, v_invvi, v_invst, v_invsp, e_int, e_lng, e_ref, e_lg0, e_lg1, e_lg2, e_lg3, e_lg4, e_lg5, e_lg6, e_lg7, e_lg8, e_lg9, e_lg10, e_lg11, e_lg12, e_lg13, e_clrI, e_clrJ, e_clrP, e_clrN, e_s0, e_s1, e_s2, e_s3, e_s4, e_s5, e_s6, e_s7, e_s8, e_s9, e_s10, e_s11, e_s12, e_s13, e_t0, e_t1, e_t2, e_t3, e_t4, e_t5, e_t6, e_t7, e_t8, e_t9, e_t10, e_t11, e_t12, e_t13, e_fd, e_kk, e_k0, e_k1, e_k2, e_k3, e_k4, e_k5, e_k6, e_k7, e_k8, e_k9, e_sv0, e_sv1, e_sv2, e_sv3, e_svc, e_pf0, e_pf1, e_pf2, e_pf3, e_ar, e_aa, e_al, e_sw1, e_sw2, e_ct0, e_ct1, e_ct2, e_cat0, e_cat1, e_rk0, e_rk1, e_rk2, e_inv0, e_inv1, e_inv2, e_inv3, e_inv4, e_inv5, e_inv6, e_o0, e_o1, e_cl, e_cle, e_cg, e_cge, e_ce, e_cr1, e_cr2, e_r, e_R, e_up, Int.cast_ofNat_Int, u_app, false_and, and_false, e_b0, e_b1, e_bn, e_bl, e_bu, Int.reduceLE, Int.reduceLT, Int.reduceEq, Int.reduceNeg, Int.reduceAdd, Int.reduceSub, Int.reduceMul, Nat.reduceLeDiff, Nat.reduceLT, Nat.reduceAdd, Nat.reduceEqDiff, true_and, and_true, true_or, or_true, false_or, or_false, forall_const, not_true_eq_false, not_false_eq_true, true_implies, false_implies, implies_true, and_self, zero_ne_one, one_ne_zero, eq_self, reduceIte, s_X11_allTiles_0, b_X11_allTiles_0, s_X11_allTiles_4, b_X11_allTiles_4, s_X11_allTiles_10, b_X11_allTiles_10, s_X11_allTiles_19, b_X11_allTiles_19, s_X11_allTiles_25, b_X11_allTiles_25, s_X11_allTiles_26, b_X11_allTiles_26, s_X11_allTiles_34, b_X11_allTiles_34, G_X11_allTiles_134, sp_X11_isTile_e]
  exact allTiles_loop hR h1 h2 9 0 (by omega)
set_option maxRecDepth 100000 in
theorem C_X11_allTiles {l : Launch} {ad : Int → Nat} {D : va_G} {cy : Nat → ClassId} {Z : State → Prop} (hZ : q_Zg ad Z) : q_Ct l q_T q_N ad D cy Z yX11_allTiles cX11_allTiles 3 (some .int) rm_X11_allTiles sp_X11_allTiles := by
  obtain ⟨hf, hg, hld⟩ := q_chkS k_X11_allTiles
  refine q_met (rk := 0) q_wokT (by decide) rfl hf hg hld rfl (q_skS L_X11_allTiles o_X11_allTiles) ?_ ?_ ?_ ?_ B_X11_allTiles
  · intro i hi; exact absurd hi List.not_mem_nil
  · intro i hi
    have hi : i = 134 := by simpa [u_X11_allTiles] using hi
    rcases hi with rfl
    · exact q_crV hZ.1 (C_X11_isTile hZ) rv_X11_isTile cm_X11_isTile (by decide +kernel) (by decide +kernel) (by decide +kernel) (by decide +kernel) (by decide +kernel) ⟨rfl, rfl⟩ (by decide)
  · intro i hi; exact absurd hi List.not_mem_nil
  · intro i hi; exact absurd hi List.not_mem_nil
theorem rv_X11_allTiles : q_rcv q_T yX11_allTiles.cls sp_X11_allTiles := by
  intro ra μ K h
  obtain ⟨this, rfl, h⟩ := sp_X11_allTiles_i h
  obtain rfl := h.1
  exact ⟨[], 85, 11, _, _, rfl, T_85, rfl, rfl⟩
theorem cm_X11_allTiles : Cond.code yX11_allTiles cX11_allTiles 3 (some .int) ∈ q_tb := by decide +kernel

