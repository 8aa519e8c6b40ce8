/-! the class: parts of the objects -/
def c_kp (μ : QM) (k i : Int) : QM := fun a j => if a = 9 + k ∧ 0 ≤ j ∧ j < 196 * i then μ (4 + j / 196) (j % 196) else μ a j
theorem u_kp (μ : QM) (k i a j : Int) : c_kp μ k i a j = if a = 9 + k ∧ 0 ≤ j ∧ j < 196 * i then μ (4 + j / 196) (j % 196) else μ a j := id rfl
theorem c_kp_0 {μ : QM} {k : Int} : c_kp μ k 0 = μ := by
  funext a j
  rw [u_kp, if_neg (by omega)]
theorem c_kp_s {μ : QM} {k i : Int} (h : 0 ≤ i ∧ i < 4) (hk : 0 ≤ k) : (fun b j => if b = 9 + k ∧ i * 196 ≤ j ∧ j < i * 196 + 196 then c_kp μ k i (4 + i) (0 + (j - i * 196)) else c_kp μ k i b j) = c_kp μ k (i + 1) := by
  funext b j
  rw [u_kp, u_kp, u_kp]
  by_cases c : b = 9 + k ∧ i * 196 ≤ j ∧ j < i * 196 + 196
  · rw [if_pos c, if_neg (by omega), if_pos (by omega), show j / 196 = i by omega, show j % 196 = 0 + (j - i * 196) by omega]
  · rw [if_neg c]
    by_cases c2 : b = 9 + k ∧ 0 ≤ j ∧ j < 196 * i
    · rw [if_pos c2, if_pos (by omega)]
    · rw [if_neg c2, if_neg (by omega)]
def sp_X5_keep : QP := fun ra μ K => match ra with
  | [.inl k, .inr (.inr this)] => this = 2 ∧ (0 ≤ k ∧ k < 3) ∧ K none (q_up (c_kp μ k 4) 12 k 1)
  | _ => False
theorem sp_X5_keep_e (this k : Int) (μ : QM) (K : Option QV → QM → Prop) : sp_X5_keep [.inl k, .inr (.inr this)] μ K = (this = 2 ∧ (0 ≤ k ∧ k < 3) ∧ K none (q_up (c_kp μ k 4) 12 k 1)) := propext Iff.rfl
theorem sp_X5_keep_i {ra : List QV} {μ : QM} {K : Option QV → QM → Prop} (h : sp_X5_keep ra μ K) : ∃ this k : Int, ra = [.inl k, .inr (.inr this)] ∧ (this = 2 ∧ (0 ≤ k ∧ k < 3) ∧ K none (q_up (c_kp μ k 4) 12 k 1)) := by
  unfold sp_X5_keep at h
  split at h
  · exact ⟨_, _, rfl, h⟩
  · exact h.elim
def rm_X5_keep : Room := { frames := 2, cells := 0, slots := 0, locals := 64 }
def G_X5_keep : Nat → Nat × QP := fun i => match i with
  | 33 => (5, sp_arraycopy)
  | _ => (0, fun _ _ _ => False)
theorem G_X5_keep_33 : G_X5_keep 33 = (5, sp_arraycopy) := id rfl
theorem keep_2 {Rt : Option QV → QM → Prop} {S : Nat → QL → List QV → QM → Prop} (hR : q_Rule cX5_keep 3 u_X5_keep fl_X5 ld_X5 G_X5_keep q_T 4 s_X5_keep Rt S) {μ : QM} {k : Int} (h1 : 0 ≤ k ∧ k < 3) (hk : Rt none (q_up (c_kp μ k 4) 12 k 1)) : ∀ (n : Nat) (i : Int), 0 ≤ i → i ≤ 4 → 4 - i < n → S 2 [some (.inr (.inr 2)), some (.inl k), some (.inl i)] [] (c_kp μ k i) := by
  intro n
  induction n with
  | zero => intro i h1 h2 h3; omega
  | succ n ih =>
    intro i h2 h3 h4
    refine hR 40 b_X5_keep_2 2 _ _ _ o_X5_keep_2 ?_
    simp only [v_opt_n, v_opt_s, v_nil, v_iconst, v_bipush, v_sipush, v_lconst0, v_lconst1, v_ldc, v_ldcw, v_ldc2, v_iload0, v_iload1, v_iload2, v_iload3, v_iload, v_lload0, v_lload1, v_lload2, v_lload3, v_lload, v_aload0, v_aload1, v_aload2, v_aload3, v_aload, v_istore0, v_istore1, v_istore2, v_istore3, v_istore, v_lstore0, v_lstore1, v_lstore2, v_lstore3, v_lstore, v_astore0, v_astore1, v_astore2, v_astore3, v_astore, v_iinc, v_iadd, v_isub, v_imul, v_iand, v_ior, v_ixor, v_ishl, v_ishr, v_iushr, v_ineg, v_idiv, v_irem, v_ladd, v_lsub, v_lmul, v_lcmp, v_i2l, v_l2i, v_i2c, v_dup, v_dup2, v_if_eq, v_if_ne, v_if_lt, v_if_ge, v_if_gt, v_if_le, v_ic_eq, v_ic_ne, v_ic_lt, v_ic_ge, v_ic_gt, v_ic_le, v_goto, v_tsw, v_lsw, v_ireturn, v_areturn, v_return, v_iaload, v_laload, v_baload, v_caload, v_aaload, v_iastore, v_lastore, v_bastore, v_castore, v_alen, v_invvi, v_invst, v_invsp, e_int, e_lng, e_ref, e_lg0, e_lg1, e_lg2, e_lg3, e_lg4, e_lg5, e_lg6, e_lg7, e_lg8, e_lg9, e_lg10, e_lg11, e_lg12, e_lg13, e_clrI, e_clrJ, e_clrP, e_clrN, e_s0, e_s1, e_s2, e_s3, e_s4, e_s5, e_s6, e_s7, e_s8, e_s9, e_s10, e_s11, e_s12, e_s13, e_t0, e_t1, e_t2, e_t3, e_t4, e_t5, e_t6, e_t7, e_t8, e_t9, e_t10, e_t11, e_t12, e_t13, e_fd, e_kk, e_k0, e_k1, e_k2, e_k3, e_k4, e_k5, e_k6, e_k7, e_k8, e_k9, e_sv0, e_sv1, e_sv2, e_sv3, e_svc, e_pf0, e_pf1, e_pf2, e_pf3, e_ar, e_aa, e_al, e_sw1, e_sw2, e_ct0, e_ct1, e_ct2, e_cat0, e_cat1, e_rk0, e_rk1, e_rk2, e_inv0, e_inv1, e_inv2, e_inv3, e_inv4, e_inv5, e_inv6, e_o0, e_o1, e_cl, e_cle, e_cg, e_cge, e_ce, e_cr1, e_cr2, e_r, e_R, e_up, Int.cast_ofNat_Int, u_app, false_and, and_false, e_b0, e_b1, e_bn, e_bl, e_bu, Int.reduceLE, Int.reduceLT, Int.reduceEq, Int.reduceNeg, Int.reduceAdd, Int.reduceSub, Int.reduceMul, Nat.reduceLeDiff, Nat.reduceLT, Nat.reduceAdd, Nat.reduceEqDiff, true_and, and_true, true_or, or_true, false_or, or_false, forall_const, not_true_eq_false, not_false_eq_true, true_implies, false_implies, implies_true, and_self, zero_ne_one, one_ne_zero, eq_self, reduceIte, s_X5_keep_0, b_X5_keep_0, s_X5_keep_2, b_X5_keep_2, s_X5_keep_7, b_X5_keep_7, s_X5_keep_37, b_X5_keep_37, g_X5_11, g_X5_16, g_X5_19, G_X5_keep_33, sp_arraycopy_e, T_3, T_8, T_12]
    refine ⟨by omega, fun c => ?_, fun c => ⟨h2, by omega, by omega, h1.1, by omega, by omega, 196, 784, T_cell h2 (by omega), T_img h1.1 h1.2, by omega, by omega, ?_⟩⟩
    · obtain rfl : i = 4 := by omega
      exact ⟨by omega, by omega, hk⟩
    · have := ih (i + 1) (by omega) (by omega) (by omega)
      rw [← c_kp_s (by omega) h1.1] at this
      exact this
set_option maxRecDepth 100000 in
set_option maxHeartbeats 4000000 in
theorem B_X5_keep : q_Body cX5_keep 3 u_X5_keep fl_X5 ld_X5 G_X5_keep q_T 4 s_X5_keep sp_X5_keep := by
  intro S Rt hR ra μ h
  obtain ⟨this, k, rfl, h⟩ := sp_X5_keep_i h
  refine ⟨by simp [q_sl, q_ct], ?_⟩
  show S 0 [some (.inr (.inr this)), some (.inl k), none] [] μ
  obtain ⟨rfl, h1, hk⟩ := h
  refine hR 40 [] 0 _ _ _ rfl ?_
  simp only [v_opt_n, v_opt_s, v_nil, v_iconst, v_bipush, v_sipush, v_lconst0, v_lconst1, v_ldc, v_ldcw, v_ldc2, v_iload0, v_iload1, v_iload2, v_iload3, v_iload, v_lload0, v_lload1, v_lload2, v_lload3, v_lload, v_aload0, v_aload1, v_aload2, v_aload3, v_aload, v_istore0, v_istore1, v_istore2, v_istore3, v_istore, v_lstore0, v_lstore1, v_lstore2, v_lstore3, v_lstore, v_astore0, v_astore1, v_astore2, v_astore3, v_astore, v_iinc, v_iadd, v_isub, v_imul, v_iand, v_ior, v_ixor, v_ishl, v_ishr, v_iushr, v_ineg, v_idiv, v_irem, v_ladd, v_lsub, v_lmul, v_lcmp, v_i2l, v_l2i, v_i2c, v_dup, v_dup2, v_if_eq, v_if_ne, v_if_lt, v_if_ge, v_if_gt, v_if_le, v_ic_eq, v_ic_ne, v_ic_lt, v_ic_ge, v_ic_gt, v_ic_le, v_goto, v_tsw, v_lsw, v_ireturn, v_areturn, v_return, v_iaload, v_laload, v_baload, v_caload, v_aaload, v_iastore, v_lastore, v_bastore, v_castore, v_alen, v_invvi, v_invst, v_invsp, e_int, e_lng, e_ref, e_lg0, e_lg1, e_lg2, e_lg3, e_lg4, e_lg5, e_lg6, e_lg7, e_lg8, e_lg9, e_lg10, e_lg11, e_lg12, e_lg13, e_clrI, e_clrJ, e_clrP, e_clrN, e_s0, e_s1, e_s2, e_s3, e_s4, e_s5, e_s6, e_s7, e_s8, e_s9, e_s10, e_s11, e_s12, e_s13, e_t0, e_t1, e_t2, e_t3, e_t4, e_t5, e_t6, e_t7, e_t8, e_t9, e_t10, e_t11, e_t12, e_t13, e_fd, e_kk, e_k0, e_k1, e_k2, e_k3, e_k4, e_k5, e_k6, e_k7, e_k8, e_k9, e_sv0, e_sv1, e_sv2, e_sv3, e_svc, e_pf0, e_pf1, e_pf2, e_pf3, e_ar, e_aa, e_al, e_sw1, e_sw2, e_ct0, e_ct1, e_ct2, e_cat0, e_cat1, e_rk0, e_rk1, e_rk2, e_inv0, e_inv1, e_inv2, e_inv3, e_inv4, e_inv5, e_inv6, e_o0, e_o1, e_cl, e_cle, e_cg, e_cge, e_ce, e_cr1, e_cr2, e_r, e_R, e_up, Int.cast_ofNat_Int, u_app, false_and, and_false, e_b0, e_b1, e_bn, e_bl, e_bu, Int.reduceLE, Int.reduceLT, Int.reduceEq, Int.reduceNeg, Int.reduceAdd, Int.reduceSub, Int.reduceMul, Nat.reduceLeDiff, Nat.reduceLT, Nat.reduceAdd, Nat.reduceEqDiff, true_and, and_true, true_or, or_true, false_or, or_false, forall_const, not_true_eq_false, not_false_eq_true, true_implies, false_implies, implies_true, and_self, zero_ne_one, one_ne_zero, eq_self, reduceIte, s_X5_keep_0, b_X5_keep_0, s_X5_keep_2, b_X5_keep_2, s_X5_keep_7, b_X5_keep_7, s_X5_keep_37, b_X5_keep_37, g_X5_11, g_X5_16, g_X5_19, G_X5_keep_33, sp_arraycopy_e]
  have := keep_2 hR h1 hk 5 0 (by omega) (by omega) (by omega)
  rw [c_kp_0] at this
  exact this
set_option maxRecDepth 100000 in
theorem C_X5_keep {l : Launch} {ad : Int → Nat} {D : va_G} {cy : Nat → ClassId} {Z : State → Prop} (hZ : q_Zg ad Z) : q_Ct l q_T q_N ad D cy Z yX5_keep cX5_keep 3 none rm_X5_keep sp_X5_keep := by
  obtain ⟨hf, hg, hld⟩ := q_chkS k_X5_keep
  refine q_met (rk := 4) q_wokT (by decide) rfl hf hg hld rfl (q_skS L_X5_keep o_X5_keep) ?_ ?_ ?_ ?_ B_X5_keep
  · intro i hi; exact absurd hi List.not_mem_nil
  · intro i hi; exact absurd hi List.not_mem_nil
  · intro i hi
    have hi : i = 33 := by simpa [u_X5_keep] using hi
    rcases hi with rfl
    · exact q_crCpy (by decide +kernel) (by decide)
  · intro i hi; exact absurd hi List.not_mem_nil
theorem rv_X5_keep : q_rcv q_T yX5_keep.cls sp_X5_keep := by
  intro ra μ K h
  obtain ⟨this, k, rfl, h⟩ := sp_X5_keep_i h
  obtain rfl := h.1
  exact ⟨[.inl k], 2, 5, _, _, rfl, T_2, rfl, rfl⟩
theorem cm_X5_keep : Cond.code yX5_keep cX5_keep 3 none ∈ q_tb := by decide +kernel
def sp_X9_empty : QP := fun ra μ K => match ra with
  | [.inr (.inr this)] => this = 20 ∧ K none (q_rows (q_fill μ 21 0 10 0) 24 10 196 (-2000000000))
  | _ => False
theorem sp_X9_empty_e (this : Int) (μ : QM) (K : Option QV → QM → Prop) : sp_X9_empty [.inr (.inr this)] μ K = (this = 20 ∧ K none (q_rows (q_fill μ 21 0 10 0) 24 10 196 (-2000000000))) := propext Iff.rfl
theorem sp_X9_empty_i {ra : List QV} {μ : QM} {K : Option QV → QM → Prop} (h : sp_X9_empty ra μ K) : ∃ this : Int, ra = [.inr (.inr this)] ∧ (this = 20 ∧ K none (q_rows (q_fill μ 21 0 10 0) 24 10 196 (-2000000000))) := by
  unfold sp_X9_empty at h
  split at h
  · exact ⟨_, rfl, h⟩
  · exact h.elim
def rm_X9_empty : Room := { frames := 1, cells := 0, slots := 0, locals := 23 }
def G_X9_empty : Nat → Nat × QP := fun i => match i with
  | 43 => (2, sp_J7_fill_53178)
  | _ => (0, fun _ _ _ => False)
theorem G_X9_empty_43 : G_X9_empty 43 = (2, sp_J7_fill_53178) := id rfl
theorem we_10 {Rt : Option QV → QM → Prop} {S : Nat → QL → List QV → QM → Prop} (hR : q_Rule cX9_empty 2 u_X9_empty fl_X9 ld_X9 G_X9_empty q_T 4 s_X9_empty Rt S) {μ : QM} (hk : Rt none (q_rows μ 24 10 196 (-2000000000))) : ∀ (n : Nat) (i : Int), 0 ≤ i → i ≤ 10 → 10 - i < n → S 10 [some (.inr (.inr 20)), some (.inl i)] [] (q_rows μ 24 i 196 (-2000000000)) := by
  intro n
  induction n with
  | zero => intro i h1 h2 h3; omega
  | succ n ih =>
    intro i h1 h2 h3
    refine hR 40 b_X9_empty_10 10 _ _ _ o_X9_empty_10 ?_
    simp only [v_opt_n, v_opt_s, v_nil, v_iconst, v_bipush, v_sipush, v_lconst0, v_lconst1, v_ldc, v_ldcw, v_ldc2, v_iload0, v_iload1, v_iload2, v_iload3, v_iload, v_lload0, v_lload1, v_lload2, v_lload3, v_lload, v_aload0, v_aload1, v_aload2, v_aload3, v_aload, v_istore0, v_istore1, v_istore2, v_istore3, v_istore, v_lstore0, v_lstore1, v_lstore2, v_lstore3, v_lstore, v_astore0, v_astore1, v_astore2, v_astore3, v_astore, v_iinc, v_iadd, v_isub, v_imul, v_iand, v_ior, v_ixor, v_ishl, v_ishr, v_iushr, v_ineg, v_idiv, v_irem, v_ladd, v_lsub, v_lmul, v_lcmp, v_i2l, v_l2i, v_i2c, v_dup, v_dup2, v_if_eq, v_if_ne, v_if_lt, v_if_ge, v_if_gt, v_if_le, v_ic_eq, v_ic_ne, v_ic_lt, v_ic_ge, v_ic_gt, v_ic_le, v_goto, v_tsw, v_lsw, v_ireturn, v_areturn, v_return, v_iaload, v_laload, v_baload, v_caload, v_aaload, v_iastore, v_lastore, v_bastore, v_castore, v_alen, v_invvi, v_invst, v_invsp, e_int, e_lng, e_ref, e_lg0, e_lg1, e_lg2, e_lg3, e_lg4, e_lg5, e_lg6, e_lg7, e_lg8, e_lg9, e_lg10, e_lg11, e_lg12, e_lg13, e_clrI, e_clrJ, e_clrP, e_clrN, e_s0, e_s1, e_s2, e_s3, e_s4, e_s5, e_s6, e_s7, e_s8, e_s9, e_s10, e_s11, e_s12, e_s13, e_t0, e_t1, e_t2, e_t3, e_t4, e_t5, e_t6, e_t7, e_t8, e_t9, e_t10, e_t11, e_t12, e_t13, e_fd, e_kk, e_k0, e_k1, e_k2, e_k3, e_k4, e_k5, e_k6, e_k7, e_k8, e_k9, e_sv0, e_sv1, e_sv2, e_sv3, e_svc, e_pf0, e_pf1, e_pf2, e_pf3, e_ar, e_aa, e_al, e_sw1, e_sw2, e_ct0, e_ct1, e_ct2, e_cat0, e_cat1, e_rk0, e_rk1, e_rk2, e_inv0, e_inv1, e_inv2, e_inv3, e_inv4, e_inv5, e_inv6, e_o0, e_o1, e_cl, e_cle, e_cg, e_cge, e_ce, e_cr1, e_cr2, e_r, e_R, e_up, Int.cast_ofNat_Int, u_app, false_and, and_false, e_b0, e_b1, e_bn, e_bl, e_bu, Int.reduceLE, Int.reduceLT, Int.reduceEq, Int.reduceNeg, Int.reduceAdd, Int.reduceSub, Int.reduceMul, Nat.reduceLeDiff, Nat.reduceLT, Nat.reduceAdd, Nat.reduceEqDiff, true_and, and_true, true_or, or_true, false_or, or_false, forall_const, not_true_eq_false, not_false_eq_true, true_implies, false_implies, implies_true, and_self, zero_ne_one, one_ne_zero, eq_self, reduceIte, s_X9_empty_0, b_X9_empty_0, s_X9_empty_10, b_X9_empty_10, s_X9_empty_16, b_X9_empty_16, s_X9_empty_33, b_X9_empty_33, g_X9_9, g_X9_20, ld_X9_49, G_X9_empty_43, sp_J7_fill_53178_e, T_23]
    refine ⟨by omega, fun c => ?_, fun c => ⟨h1, by omega, by omega, 196, T_val h1 (by omega), by omega, ?_⟩⟩
    · obtain rfl : i = 10 := by omega
      exact hk
    · have := ih (i + 1) (by omega) (by omega) (by omega)
      rw [← q_rows_s h1] at this
      exact this
set_option maxRecDepth 100000 in
set_option maxHeartbeats 4000000 in
theorem B_X9_empty : q_Body cX9_empty 2 u_X9_empty fl_X9 ld_X9 G_X9_empty q_T 4 s_X9_empty sp_X9_empty := by
  intro S Rt hR ra μ h
  obtain ⟨this, rfl, h⟩ := sp_X9_empty_i h
  refine ⟨by simp [q_sl, q_ct], ?_⟩
  show S 0 [some (.inr (.inr this)), none] [] μ
  obtain ⟨rfl, hk⟩ := h
  refine hR 40 [] 0 _ _ _ rfl ?_
  simp only [v_opt_n, v_opt_s, v_nil, v_iconst, v_bipush, v_sipush, v_lconst0, v_lconst1, v_ldc, v_ldcw, v_ldc2, v_iload0, v_iload1, v_iload2, v_iload3, v_iload, v_lload0, v_lload1, v_lload2, v_lload3, v_lload, v_aload0, v_aload1, v_aload2, v_aload3, v_aload, v_istore0, v_istore1, v_istore2, v_istore3, v_istore, v_lstore0, v_lstore1, v_lstore2, v_lstore3, v_lstore, v_astore0, v_astore1, v_astore2, v_astore3, v_astore, v_iinc, v_iadd, v_isub, v_imul, v_iand, v_ior, v_ixor, v_ishl, v_ishr, v_iushr, v_ineg, v_idiv, v_irem, v_ladd, v_lsub, v_lmul, v_lcmp, v_i2l, v_l2i, v_i2c, v_dup, v_dup2, v_if_eq, v_if_ne, v_if_lt, v_if_ge, v_if_gt, v_if_le, v_ic_eq, v_ic_ne, v_ic_lt, v_ic_ge, v_ic_gt, v_ic_le, v_goto, v_tsw, v_lsw, v_ireturn, v_areturn, v_return, v_iaload, v_laload, v_baload, v_caload, v_aaload, v_iastore, v_lastore, v_bastore, v_castore, v_alen, v_invvi, v_invst, v_invsp, e_int, e_lng, e_ref, e_lg0, e_lg1, e_lg2, e_lg3, e_lg4, e_lg5, e_lg6, e_lg7, e_lg8, e_lg9, e_lg10, e_lg11, e_lg12, e_lg13, e_clrI, e_clrJ, e_clrP, e_clrN, e_s0, e_s1, e_s2, e_s3, e_s4, e_s5, e_s6, e_s7, e_s8, e_s9, e_s10, e_s11, e_s12, e_s13, e_t0, e_t1, e_t2, e_t3, e_t4, e_t5, e_t6, e_t7, e_t8, e_t9, e_t10, e_t11, e_t12, e_t13, e_fd, e_kk, e_k0, e_k1, e_k2, e_k3, e_k4, e_k5, e_k6, e_k7, e_k8, e_k9, e_sv0, e_sv1, e_sv2, e_sv3, e_svc, e_pf0, e_pf1, e_pf2, e_pf3, e_ar, e_aa, e_al, e_sw1, e_sw2, e_ct0, e_ct1, e_ct2, e_cat0, e_cat1, e_rk0, e_rk1, e_rk2, e_inv0, e_inv1, e_inv2, e_inv3, e_inv4, e_inv5, e_inv6, e_o0, e_o1, e_cl, e_cle, e_cg, e_cge, e_ce, e_cr1, e_cr2, e_r, e_R, e_up, Int.cast_ofNat_Int, u_app, false_and, and_false, e_b0, e_b1, e_bn, e_bl, e_bu, Int.reduceLE, Int.reduceLT, Int.reduceEq, Int.reduceNeg, Int.reduceAdd, Int.reduceSub, Int.reduceMul, Nat.reduceLeDiff, Nat.reduceLT, Nat.reduceAdd, Nat.reduceEqDiff, true_and, and_true, true_or, or_true, false_or, or_false, forall_const, not_true_eq_false, not_false_eq_true, true_implies, false_implies, implies_true, and_self, zero_ne_one, one_ne_zero, eq_self, reduceIte, s_X9_empty_0, b_X9_empty_0, s_X9_empty_10, b_X9_empty_10, s_X9_empty_16, b_X9_empty_16, s_X9_empty_33, b_X9_empty_33, g_X9_9, g_X9_20, ld_X9_49, G_X9_empty_43, sp_J7_fill_53178_e]
  refine ⟨10, T_21, by omega, ?_⟩
  have := we_10 hR hk 11 0 (by omega) (by omega) (by omega)
  rw [q_rows_0] at this
  exact this
set_option maxRecDepth 100000 in
theorem C_X9_empty {l : Launch} {ad : Int → Nat} {D : va_G} {cy : Nat → ClassId} {Z : State → Prop} (hZ : q_Zg ad Z) : q_Ct l q_T q_N ad D cy Z yX9_empty cX9_empty 2 none rm_X9_empty sp_X9_empty := by
  obtain ⟨hf, hg, hld⟩ := q_chkS k_X9_empty
  refine q_met (rk := 4) q_wokT (by decide) rfl hf hg hld rfl (q_skS L_X9_empty o_X9_empty) ?_ ?_ ?_ ?_ B_X9_empty
  · intro i hi; exact absurd hi List.not_mem_nil
  · intro i hi; exact absurd hi List.not_mem_nil
  · intro i hi
    have hi : i = 43 := by simpa [u_X9_empty] using hi
    rcases hi with rfl
    · exact q_crS hZ.1 (C_J7_fill_53178 hZ) cm_J7_fill_53178 (by decide +kernel) (by decide +kernel) (by decide +kernel) (by decide +kernel) ⟨rfl, rfl⟩ (by decide)
  · intro i hi; exact absurd hi List.not_mem_nil
theorem rv_X9_empty : q_rcv q_T yX9_empty.cls sp_X9_empty := by
  intro ra μ K h
  obtain ⟨this, rfl, h⟩ := sp_X9_empty_i h
  obtain rfl := h.1
  exact ⟨[], 20, 9, _, _, rfl, T_20, rfl, rfl⟩
theorem cm_X9_empty : Cond.code yX9_empty cX9_empty 2 none ∈ q_tb := by decide +kernel
def sp_X9_follow : QP := fun ra μ K => match ra with
  | [.inr (.inr newPlan), .inr (.inr this)] => this = 20 ∧ 0 ≤ newPlan ∧ K none (q_fill (q_up μ 20 5 newPlan) 21 0 10 0)
  | _ => False
theorem sp_X9_follow_e (this newPlan : Int) (μ : QM) (K : Option QV → QM → Prop) : sp_X9_follow [.inr (.inr newPlan), .inr (.inr this)] μ K = (this = 20 ∧ 0 ≤ newPlan ∧ K none (q_fill (q_up μ 20 5 newPlan) 21 0 10 0)) := propext Iff.rfl
theorem sp_X9_follow_i {ra : List QV} {μ : QM} {K : Option QV → QM → Prop} (h : sp_X9_follow ra μ K) : ∃ this newPlan : Int, ra = [.inr (.inr newPlan), .inr (.inr this)] ∧ (this = 20 ∧ 0 ≤ newPlan ∧ K none (q_fill (q_up μ 20 5 newPlan) 21 0 10 0)) := by
  unfold sp_X9_follow at h
  split at h
  · exact ⟨_, _, rfl, h⟩
  · exact h.elim
def rm_X9_follow : Room := { frames := 1, cells := 0, slots := 0, locals := 23 }
def G_X9_follow : Nat → Nat × QP := fun i => match i with
  | 43 => (2, sp_J7_fill_53178)
  | _ => (0, fun _ _ _ => False)
theorem G_X9_follow_43 : G_X9_follow 43 = (2, sp_J7_fill_53178) := id rfl
set_option maxRecDepth 100000 in
set_option maxHeartbeats 4000000 in
theorem B_X9_follow : q_Body cX9_follow 2 u_X9_follow fl_X9 ld_X9 G_X9_follow q_T 4 s_X9_follow sp_X9_follow := by
  intro S Rt hR ra μ h
  obtain ⟨this, newPlan, rfl, h⟩ := sp_X9_follow_i h
  refine ⟨by simp [q_sl, q_ct], ?_⟩
  show S 0 [some (.inr (.inr this)), some (.inr (.inr newPlan))] [] μ
  obtain ⟨rfl, h1, hk⟩ := h
  refine hR 40 [] 0 _ _ _ rfl ?_
  simp only [v_opt_n, v_opt_s, v_nil, v_iconst, v_bipush, v_sipush, v_lconst0, v_lconst1, v_ldc, v_ldcw, v_ldc2, v_iload0, v_iload1, v_iload2, v_iload3, v_iload, v_lload0, v_lload1, v_lload2, v_lload3, v_lload, v_aload0, v_aload1, v_aload2, v_aload3, v_aload, v_istore0, v_istore1, v_istore2, v_istore3, v_istore, v_lstore0, v_lstore1, v_lstore2, v_lstore3, v_lstore, v_astore0, v_astore1, v_astore2, v_astore3, v_astore, v_iinc, v_iadd, v_isub, v_imul, v_iand, v_ior, v_ixor, v_ishl, v_ishr, v_iushr, v_ineg, v_idiv, v_irem, v_ladd, v_lsub, v_lmul, v_lcmp, v_i2l, v_l2i, v_i2c, v_dup, v_dup2, v_if_eq, v_if_ne, v_if_lt, v_if_ge, v_if_gt, v_if_le, v_ic_eq, v_ic_ne, v_ic_lt, v_ic_ge, v_ic_gt, v_ic_le, v_goto, v_tsw, v_lsw, v_ireturn, v_areturn, v_return, v_iaload, v_laload, v_baload, v_caload, v_aaload, v_iastore, v_lastore, v_bastore, v_castore, v_alen, v_invvi, v_invst, v_invsp, e_int, e_lng, e_ref, e_lg0, e_lg1, e_lg2, e_lg3, e_lg4, e_lg5, e_lg6, e_lg7, e_lg8, e_lg9, e_lg10, e_lg11, e_lg12, e_lg13, e_clrI, e_clrJ, e_clrP, e_clrN, e_s0, e_s1, e_s2, e_s3, e_s4, e_s5, e_s6, e_s7, e_s8, e_s9, e_s10, e_s11, e_s12, e_s13, e_t0, e_t1, e_t2, e_t3, e_t4, e_t5, e_t6, e_t7, e_t8, e_t9, e_t10, e_t11, e_t12, e_t13, e_fd, e_kk, e_k0, e_k1, e_k2, e_k3, e_k4, e_k5, e_k6, e_k7, e_k8, e_k9, e_sv0, e_sv1, e_sv2, e_sv3, e_svc, e_pf0, e_pf1, e_pf2, e_pf3, e_ar, e_aa, e_al, e_sw1, e_sw2, e_ct0, e_ct1, e_ct2, e_cat0, e_cat1, e_rk0, e_rk1, e_rk2, e_inv0, e_inv1, e_inv2, e_inv3, e_inv4, e_inv5, e_inv6, e_o0, e_o1, e_cl, e_cle, e_cg, e_cge, e_ce, e_cr1, e_cr2, e_r, e_R, e_up, Int.cast_ofNat_Int, u_app, false_and, and_false, e_b0, e_b1, e_bn, e_bl, e_bu, Int.reduceLE, Int.reduceLT, Int.reduceEq, Int.reduceNeg, Int.reduceAdd, Int.reduceSub, Int.reduceMul, Nat.reduceLeDiff, Nat.reduceLT, Nat.reduceAdd, Nat.reduceEqDiff, true_and, and_true, true_or, or_true, false_or, or_false, forall_const, not_true_eq_false, not_false_eq_true, true_implies, false_implies, implies_true, and_self, zero_ne_one, one_ne_zero, eq_self, reduceIte, s_X9_follow_0, b_X9_follow_0, g_X9_27, p_X9_27, g_X9_9, G_X9_follow_43, sp_J7_fill_53178_e]
  exact ⟨h1, 10, T_21, by omega, hk⟩
set_option maxRecDepth 100000 in
theorem C_X9_follow {l : Launch} {ad : Int → Nat} {D : va_G} {cy : Nat → ClassId} {Z : State → Prop} (hZ : q_Zg ad Z) : q_Ct l q_T q_N ad D cy Z yX9_follow cX9_follow 2 none rm_X9_follow sp_X9_follow := by
  obtain ⟨hf, hg, hld⟩ := q_chkS k_X9_follow
  refine q_met (rk := 4) q_wokT (by decide) rfl hf hg hld rfl (q_skS L_X9_follow o_X9_follow) ?_ ?_ ?_ ?_ B_X9_follow
  · intro i hi; exact absurd hi List.not_mem_nil
  · intro i hi; exact absurd hi List.not_mem_nil
  · intro i hi
    have hi : i = 43 := by simpa [u_X9_follow] using hi
    rcases hi with rfl
    · exact q_crS hZ.1 (C_J7_fill_53178 hZ) cm_J7_fill_53178 (by decide +kernel) (by decide +kernel) (by decide +kernel) (by decide +kernel) ⟨rfl, rfl⟩ (by decide)
  · intro i hi; exact absurd hi List.not_mem_nil
theorem rv_X9_follow : q_rcv q_T yX9_follow.cls sp_X9_follow := by
  intro ra μ K h
  obtain ⟨this, newPlan, rfl, h⟩ := sp_X9_follow_i h
  obtain rfl := h.1
  exact ⟨[.inr (.inr newPlan)], 20, 9, _, _, rfl, T_20, rfl, rfl⟩
theorem cm_X9_follow : Cond.code yX9_follow cX9_follow 2 none ∈ q_tb := by decide +kernel
def sp_X9_isFresh : QP := fun ra μ K => match ra with
  | [.inl tile, .inl board, .inr (.inr this)] => this = 20 ∧ (0 ≤ board ∧ board < 10 ∧ 0 ≤ tile ∧ tile < 9) ∧ q_mk (μ 21 board) ∧ K (some (.inl (q_b (q_bit (μ 21 board) tile.toNat = true)))) μ
  | _ => False
theorem sp_X9_isFresh_e (this board tile : Int) (μ : QM) (K : Option QV → QM → Prop) : sp_X9_isFresh [.inl tile, .inl board, .inr (.inr this)] μ K = (this = 20 ∧ (0 ≤ board ∧ board < 10 ∧ 0 ≤ tile ∧ tile < 9) ∧ q_mk (μ 21 board) ∧ K (some (.inl (q_b (q_bit (μ 21 board) tile.toNat = true)))) μ) := propext Iff.rfl
theorem sp_X9_isFresh_i {ra : List QV} {μ : QM} {K : Option QV → QM → Prop} (h : sp_X9_isFresh ra μ K) : ∃ this board tile : Int, ra = [.inl tile, .inl board, .inr (.inr this)] ∧ (this = 20 ∧ (0 ≤ board ∧ board < 10 ∧ 0 ≤ tile ∧ tile < 9) ∧ q_mk (μ 21 board) ∧ K (some (.inl (q_b (q_bit (μ 21 board) tile.toNat = true)))) μ) := by
  unfold sp_X9_isFresh at h
  split at h
  · exact ⟨_, _, _, rfl, h⟩
  · exact h.elim
def rm_X9_isFresh : Room := { frames := 0, cells := 0, slots := 0, locals := 0 }
def G_X9_isFresh : Nat → Nat × QP := fun i => match i with
  | _ => (0, fun _ _ _ => False)
set_option maxRecDepth 100000 in
set_option maxHeartbeats 4000000 in
theorem B_X9_isFresh : q_Body cX9_isFresh 3 u_X9_isFresh fl_X9 ld_X9 G_X9_isFresh q_T 1 s_X9_isFresh sp_X9_isFresh := by
  intro S Rt hR ra μ h
  obtain ⟨this, board, tile, rfl, h⟩ := sp_X9_isFresh_i h
  refine ⟨by simp [q_sl, q_ct], ?_⟩
  show S 0 [some (.inr (.inr this)), some (.inl board), some (.inl tile)] [] μ
  obtain ⟨rfl, h1, h2, h3⟩ := h
  have e := bt_get (q_mk_nn h2) (q_mk_le h2) (show 0 ≤ tile by omega) (by omega)
  refine hR 40 [] 0 _ _ _ rfl ?_
  simp only [v_opt_n, v_opt_s, v_nil, v_iconst, v_bipush, v_sipush, v_lconst0, v_lconst1, v_ldc, v_ldcw, v_ldc2, v_iload0, v_iload1, v_iload2, v_iload3, v_iload, v_lload0, v_lload1, v_lload2, v_lload3, v_lload, v_aload0, v_aload1, v_aload2, v_aload3, v_aload, v_istore0, v_istore1, v_istore2, v_istore3, v_istore, v_lstore0, v_lstore1, v_lstore2, v_lstore3, v_lstore, v_astore0, v_astore1, v_astore2, v_astore3, v_astore, v_iinc, v_iadd, v_isub, v_imul, v_iand, v_ior, v_ixor, v_ishl, v_ishr, v_iushr, v_ineg, v_idiv, v_irem, v_ladd, v_lsub, v_lmul, v_lcmp, v_i2l, v_l2i, v_i2c, v_dup, v_dup2, v_if_eq, v_if_ne, v_if_lt, v_if_ge, v_if_gt, v_if_le, v_ic_eq, v_ic_ne, v_ic_lt, v_ic_ge, v_ic_gt, v_ic_le, v_goto, v_tsw, v_lsw, v_ireturn, v_areturn, v_return, v_iaload, v_laload, v_baload, v_caload, v_aaload, v_iastore, v_lastore, v_bastore, v_castore, v_alen, v_invvi, v_invst, v_invsp, e_int, e_lng, e_ref, e_lg0, e_lg1, e_lg2, e_lg3, e_lg4, e_lg5, e_lg6, e_lg7, e_lg8, e_lg9, e_lg10, e_lg11, e_lg12, e_lg13, e_clrI, e_clrJ, e_clrP, e_clrN, e_s0, e_s1, e_s2, e_s3, e_s4, e_s5, e_s6, e_s7, e_s8, e_s9, e_s10, e_s11, e_s12, e_s13, e_t0, e_t1, e_t2, e_t3, e_t4, e_t5, e_t6, e_t7, e_t8, e_t9, e_t10, e_t11, e_t12, e_t13, e_fd, e_kk, e_k0, e_k1, e_k2, e_k3, e_k4, e_k5, e_k6, e_k7, e_k8, e_k9, e_sv0, e_sv1, e_sv2, e_sv3, e_svc, e_pf0, e_pf1, e_pf2, e_pf3, e_ar, e_aa, e_al, e_sw1, e_sw2, e_ct0, e_ct1, e_ct2, e_cat0, e_cat1, e_rk0, e_rk1, e_rk2, e_inv0, e_inv1, e_inv2, e_inv3, e_inv4, e_inv5, e_inv6, e_o0, e_o1, e_cl, e_cle, e_cg, e_cge, e_ce, e_cr1, e_cr2, e_r, e_R, e_up, Int.cast_ofNat_Int, u_app, false_and, and_false, e_b0, e_b1, e_bn, e_bl, e_bu, Int.reduceLE, Int.reduceLT, Int.reduceEq, Int.reduceNeg, Int.reduceAdd, Int.reduceSub, Int.reduceMul, Nat.reduceLeDiff, Nat.reduceLT, Nat.reduceAdd, Nat.reduceEqDiff, true_and, and_true, true_or, or_true, false_or, or_false, forall_const, not_true_eq_false, not_false_eq_true, true_implies, false_implies, implies_true, and_self, zero_ne_one, one_ne_zero, eq_self, reduceIte, s_X9_isFresh_0, b_X9_isFresh_0, s_X9_isFresh_13, b_X9_isFresh_13, s_X9_isFresh_17, b_X9_isFresh_17, s_X9_isFresh_18, b_X9_isFresh_18, g_X9_9, T_21]
  rw [e]
  refine ⟨by omega, by omega, by unfold q_b; split <;> omega, fun c2 => ?_, fun c2 => ?_⟩
  · rw [e_b0] at c2
    rw [q_bf c2] at h3
    exact h3
  · rw [e_b0] at c2
    rw [q_bt (Classical.not_not.mp c2)] at h3
    exact h3
set_option maxRecDepth 100000 in
theorem C_X9_isFresh {l : Launch} {ad : Int → Nat} {D : va_G} {cy : Nat → ClassId} {Z : State → Prop} (hZ : q_Zg ad Z) : q_Ct l q_T q_N ad D cy Z yX9_isFresh cX9_isFresh 3 (some .boolean) rm_X9_isFresh sp_X9_isFresh := by
  obtain ⟨hf, hg, hld⟩ := q_chkS k_X9_isFresh
  refine q_met (rk := 1) q_wokT (by decide) rfl hf hg hld rfl (q_skS L_X9_isFresh o_X9_isFresh) ?_ ?_ ?_ ?_ B_X9_isFresh
  · intro i hi; exact absurd hi List.not_mem_nil
  · intro i hi; exact absurd hi List.not_mem_nil
  · intro i hi; exact absurd hi List.not_mem_nil
  · intro i hi; exact absurd hi List.not_mem_nil
theorem rv_X9_isFresh : q_rcv q_T yX9_isFresh.cls sp_X9_isFresh := by
  intro ra μ K h
  obtain ⟨this, board, tile, rfl, h⟩ := sp_X9_isFresh_i h
  obtain rfl := h.1
  exact ⟨[.inl tile, .inl board], 20, 9, _, _, rfl, T_20, rfl, rfl⟩
theorem cm_X9_isFresh : Cond.code yX9_isFresh cX9_isFresh 3 (some .boolean) ∈ q_tb := by decide +kernel
/-! the tape -/
def sp_X7_hasRoom : QP := fun ra μ K => match ra with
  | [.inl more, .inr (.inr this)] => this = 13 ∧ (0 ≤ more ∧ more ≤ 1000) ∧ (0 ≤ μ 13 1 ∧ μ 13 1 ≤ 300) ∧ K (some (.inl (q_b (μ 13 1 + more ≤ 300)))) μ
  | _ => False
theorem sp_X7_hasRoom_e (this more : Int) (μ : QM) (K : Option QV → QM → Prop) : sp_X7_hasRoom [.inl more, .inr (.inr this)] μ K = (this = 13 ∧ (0 ≤ more ∧ more ≤ 1000) ∧ (0 ≤ μ 13 1 ∧ μ 13 1 ≤ 300) ∧ K (some (.inl (q_b (μ 13 1 + more ≤ 300)))) μ) := propext Iff.rfl
theorem sp_X7_hasRoom_i {ra : List QV} {μ : QM} {K : Option QV → QM → Prop} (h : sp_X7_hasRoom ra μ K) : ∃ this more : Int, ra = [.inl more, .inr (.inr this)] ∧ (this = 13 ∧ (0 ≤ more ∧ more ≤ 1000) ∧ (0 ≤ μ 13 1 ∧ μ 13 1 ≤ 300) ∧ K (some (.inl (q_b (μ 13 1 + more ≤ 300)))) μ) := by
  unfold sp_X7_hasRoom at h
  split at h
  · exact ⟨_, _, rfl, h⟩
  · exact h.elim
def rm_X7_hasRoom : Room := { frames := 0, cells := 0, slots := 0, locals := 0 }
def G_X7_hasRoom : Nat → Nat × QP := fun i => match i with
  | _ => (0, fun _ _ _ => False)
set_option maxRecDepth 100000 in
set_option maxHeartbeats 4000000 in
theorem B_X7_hasRoom : q_Body cX7_hasRoom 2 u_X7_hasRoom fl_X7 ld_X7 G_X7_hasRoom q_T 1 s_X7_hasRoom sp_X7_hasRoom := by
  intro S Rt hR ra μ h
  obtain ⟨this, more, rfl, h⟩ := sp_X7_hasRoom_i h
  refine ⟨by simp [q_sl, q_ct], ?_⟩
  show S 0 [some (.inr (.inr this)), some (.inl more)] [] μ
  obtain ⟨rfl, h1, h2, h3⟩ := h
  refine hR 40 [] 0 _ _ _ rfl ?_
  simp only [v_opt_n, v_opt_s, v_nil, v_iconst, v_bipush, v_sipush, v_lconst0, v_lconst1, v_ldc, v_ldcw, v_ldc2, v_iload0, v_iload1, v_iload2, v_iload3, v_iload, v_lload0, v_lload1, v_lload2, v_lload3, v_lload, v_aload0, v_aload1, v_aload2, v_aload3, v_aload, v_istore0, v_istore1, v_istore2, v_istore3, v_istore, v_lstore0, v_lstore1, v_lstore2, v_lstore3, v_lstore, v_astore0, v_astore1, v_astore2, v_astore3, v_astore, v_iinc, v_iadd, v_isub, v_imul, v_iand, v_ior, v_ixor, v_ishl, v_ishr, v_iushr, v_ineg, v_idiv, v_irem, v_ladd, v_lsub, v_lmul, v_lcmp, v_i2l, v_l2i, v_i2c, v_dup, v_dup2, v_if_eq, v_if_ne, v_if_lt, v_if_ge, v_if_gt, v_if_le, v_ic_eq, v_ic_ne, v_ic_lt, v_ic_ge, v_ic_gt, v_ic_le, v_goto, v_tsw, v_lsw, v_ireturn, v_areturn, v_return, v_iaload, v_laload, v_baload, v_caload, v_aaload, v_iastore, v_lastore, v_bastore, v_castore, v_alen, v_invvi, v_invst, v_invsp, e_int, e_lng, e_ref, e_lg0, e_lg1, e_lg2, e_lg3, e_lg4, e_lg5, e_lg6, e_lg7, e_lg8, e_lg9, e_lg10, e_lg11, e_lg12, e_lg13, e_clrI, e_clrJ, e_clrP, e_clrN, e_s0, e_s1, e_s2, e_s3, e_s4, e_s5, e_s6, e_s7, e_s8, e_s9, e_s10, e_s11, e_s12, e_s13, e_t0, e_t1, e_t2, e_t3, e_t4, e_t5, e_t6, e_t7, e_t8, e_t9, e_t10, e_t11, e_t12, e_t13, e_fd, e_kk, e_k0, e_k1, e_k2, e_k3, e_k4, e_k5, e_k6, e_k7, e_k8, e_k9, e_sv0, e_sv1, e_sv2, e_sv3, e_svc, e_pf0, e_pf1, e_pf2, e_pf3, e_ar, e_aa, e_al, e_sw1, e_sw2, e_ct0, e_ct1, e_ct2, e_cat0, e_cat1, e_rk0, e_rk1, e_rk2, e_inv0, e_inv1, e_inv2, e_inv3, e_inv4, e_inv5, e_inv6, e_o0, e_o1, e_cl, e_cle, e_cg, e_cge, e_ce, e_cr1, e_cr2, e_r, e_R, e_up, Int.cast_ofNat_Int, u_app, false_and, and_false, e_b0, e_b1, e_bn, e_bl, e_bu, Int.reduceLE, Int.reduceLT, Int.reduceEq, Int.reduceNeg, Int.reduceAdd, Int.reduceSub, Int.reduceMul, Nat.reduceLeDiff, Nat.reduceLT, Nat.reduceAdd, Nat.reduceEqDiff, true_and, and_true, true_or, or_true, false_or, or_false, forall_const, not_true_eq_false, not_false_eq_true, true_implies, false_implies, implies_true, and_self, zero_ne_one, one_ne_zero, eq_self, reduceIte, s_X7_hasRoom_0, b_X7_hasRoom_0, s_X7_hasRoom_12, b_X7_hasRoom_12, s_X7_hasRoom_16, b_X7_hasRoom_16, s_X7_hasRoom_17, b_X7_hasRoom_17, g_X7_15]
  unfold q_b at h3
  split at h3 <;> (repeat' (first | assumption | (refine And.intro ?_ ?_) | (intro _))) <;> first | omega | (exfalso; omega)
set_option maxRecDepth 100000 in
theorem C_X7_hasRoom {l : Launch} {ad : Int → Nat} {D : va_G} {cy : Nat → ClassId} {Z : State → Prop} (hZ : q_Zg ad Z) : q_Ct l q_T q_N ad D cy Z yX7_hasRoom cX7_hasRoom 2 (some .boolean) rm_X7_hasRoom sp_X7_hasRoom := by
  obtain ⟨hf, hg, hld⟩ := q_chkS k_X7_hasRoom
  refine q_met (rk := 1) q_wokT (by decide) rfl hf hg hld rfl (q_skS L_X7_hasRoom o_X7_hasRoom) ?_ ?_ ?_ ?_ B_X7_hasRoom
  · intro i hi; exact absurd hi List.not_mem_nil
  · intro i hi; exact absurd hi List.not_mem_nil
  · intro i hi; exact absurd hi List.not_mem_nil
  · intro i hi; exact absurd hi List.not_mem_nil
theorem rv_X7_hasRoom : q_rcv q_T yX7_hasRoom.cls sp_X7_hasRoom := by
  intro ra μ K h
  obtain ⟨this, more, rfl, h⟩ := sp_X7_hasRoom_i h
  obtain rfl := h.1
  exact ⟨[.inl more], 13, 7, _, _, rfl, T_13, rfl, rfl⟩
theorem cm_X7_hasRoom : Cond.code yX7_hasRoom cX7_hasRoom 2 (some .boolean) ∈ q_tb := by decide +kernel
def c_by (T : Int → Int) (L p : Int) : Int := if 0 ≤ p ∧ p < L then T p else 0
theorem c_by_b {T : Int → Int} {L : Int} (ht : m_tp T L) (p : Int) : 0 ≤ c_by T L p ∧ c_by T L p ≤ 255 := by
  unfold c_by
  split
  · rename_i c
    exact ht.2 p c.1 c.2
  · omega
def sp_X7_byteAt : QP := fun ra μ K => match ra with
  | [.inl place, .inr (.inr this)] => this = 13 ∧ q_r place ∧ m_tp (μ 14) (μ 13 1) ∧ K (some (.inl (c_by (μ 14) (μ 13 1) place))) μ
  | _ => False
theorem sp_X7_byteAt_e (this place : Int) (μ : QM) (K : Option QV → QM → Prop) : sp_X7_byteAt [.inl place, .inr (.inr this)] μ K = (this = 13 ∧ q_r place ∧ m_tp (μ 14) (μ 13 1) ∧ K (some (.inl (c_by (μ 14) (μ 13 1) place))) μ) := propext Iff.rfl
theorem sp_X7_byteAt_i {ra : List QV} {μ : QM} {K : Option QV → QM → Prop} (h : sp_X7_byteAt ra μ K) : ∃ this place : Int, ra = [.inl place, .inr (.inr this)] ∧ (this = 13 ∧ q_r place ∧ m_tp (μ 14) (μ 13 1) ∧ K (some (.inl (c_by (μ 14) (μ 13 1) place))) μ) := by
  unfold sp_X7_byteAt at h
  split at h
  · exact ⟨_, _, rfl, h⟩
  · exact h.elim
def rm_X7_byteAt : Room := { frames := 0, cells := 0, slots := 0, locals := 0 }
def G_X7_byteAt : Nat → Nat × QP := fun i => match i with
  | _ => (0, fun _ _ _ => False)
set_option maxRecDepth 100000 in
set_option maxHeartbeats 4000000 in
theorem B_X7_byteAt : q_Body cX7_byteAt 2 u_X7_byteAt fl_X7 ld_X7 G_X7_byteAt q_T 2 s_X7_byteAt sp_X7_byteAt := by
  intro S Rt hR ra μ h
  obtain ⟨this, place, rfl, h⟩ := sp_X7_byteAt_i h
  refine ⟨by simp [q_sl, q_ct], ?_⟩
  show S 0 [some (.inr (.inr this)), some (.inl place)] [] μ
  obtain ⟨rfl, h1, h2, h3⟩ := h
  have ht1 := h2.1
  have ht2 := h2.2 place
  refine hR 40 [] 0 _ _ _ rfl ?_
  simp only [v_opt_n, v_opt_s, v_nil, v_iconst, v_bipush, v_sipush, v_lconst0, v_lconst1, v_ldc, v_ldcw, v_ldc2, v_iload0, v_iload1, v_iload2, v_iload3, v_iload, v_lload0, v_lload1, v_lload2, v_lload3, v_lload, v_aload0, v_aload1, v_aload2, v_aload3, v_aload, v_istore0, v_istore1, v_istore2, v_istore3, v_istore, v_lstore0, v_lstore1, v_lstore2, v_lstore3, v_lstore, v_astore0, v_astore1, v_astore2, v_astore3, v_astore, v_iinc, v_iadd, v_isub, v_imul, v_iand, v_ior, v_ixor, v_ishl, v_ishr, v_iushr, v_ineg, v_idiv, v_irem, v_ladd, v_lsub, v_lmul, v_lcmp, v_i2l, v_l2i, v_i2c, v_dup, v_dup2, v_if_eq, v_if_ne, v_if_lt, v_if_ge, v_if_gt, v_if_le, v_ic_eq, v_ic_ne, v_ic_lt, v_ic_ge, v_ic_gt, v_ic_le, v_goto, v_tsw, v_lsw, v_ireturn, v_areturn, v_return, v_iaload, v_laload, v_baload, v_caload, v_aaload, v_iastore, v_lastore, v_bastore, v_castore, v_alen, v_invvi, v_invst, v_invsp, e_int, e_lng, e_ref, e_lg0, e_lg1, e_lg2, e_lg3, e_lg4, e_lg5, e_lg6, e_lg7, e_lg8, e_lg9, e_lg10, e_lg11, e_lg12, e_lg13, e_clrI, e_clrJ, e_clrP, e_clrN, e_s0, e_s1, e_s2, e_s3, e_s4, e_s5, e_s6, e_s7, e_s8, e_s9, e_s10, e_s11, e_s12, e_s13, e_t0, e_t1, e_t2, e_t3, e_t4, e_t5, e_t6, e_t7, e_t8, e_t9, e_t10, e_t11, e_t12, e_t13, e_fd, e_kk, e_k0, e_k1, e_k2, e_k3, e_k4, e_k5, e_k6, e_k7, e_k8, e_k9, e_sv0, e_sv1, e_sv2, e_sv3, e_svc, e_pf0, e_pf1, e_pf2, e_pf3, e_ar, e_aa, e_al, e_sw1, e_sw2, e_ct0, e_ct1, e_ct2, e_cat0, e_cat1, e_rk0, e_rk1, e_rk2, e_inv0, e_inv1, e_inv2, e_inv3, e_inv4, e_inv5, e_inv6, e_o0, e_o1, e_cl, e_cle, e_cg, e_cge, e_ce, e_cr1, e_cr2, e_r, e_R, e_up, Int.cast_ofNat_Int, u_app, false_and, and_false, e_b0, e_b1, e_bn, e_bl, e_bu, Int.reduceLE, Int.reduceLT, Int.reduceEq, Int.reduceNeg, Int.reduceAdd, Int.reduceSub, Int.reduceMul, Nat.reduceLeDiff, Nat.reduceLT, Nat.reduceAdd, Nat.reduceEqDiff, true_and, and_true, true_or, or_true, false_or, or_false, forall_const, not_true_eq_false, not_false_eq_true, true_implies, false_implies, implies_true, and_self, zero_ne_one, one_ne_zero, eq_self, reduceIte, s_X7_byteAt_0, b_X7_byteAt_0, s_X7_byteAt_4, b_X7_byteAt_4, s_X7_byteAt_12, b_X7_byteAt_12, s_X7_byteAt_21, b_X7_byteAt_21, s_X7_byteAt_22, b_X7_byteAt_22, g_X7_15, g_X7_9, T_14]
  unfold c_by at h3
  split at h3 <;> (repeat' (first | assumption | (refine And.intro ?_ ?_) | (intro _))) <;> first | omega | (exfalso; omega)
set_option maxRecDepth 100000 in
theorem C_X7_byteAt {l : Launch} {ad : Int → Nat} {D : va_G} {cy : Nat → ClassId} {Z : State → Prop} (hZ : q_Zg ad Z) : q_Ct l q_T q_N ad D cy Z yX7_byteAt cX7_byteAt 2 (some .char) rm_X7_byteAt sp_X7_byteAt := by
  obtain ⟨hf, hg, hld⟩ := q_chkS k_X7_byteAt
  refine q_met (rk := 2) q_wokT (by decide) rfl hf hg hld rfl (q_skS L_X7_byteAt o_X7_byteAt) ?_ ?_ ?_ ?_ B_X7_byteAt
  · intro i hi; exact absurd hi List.not_mem_nil
  · intro i hi; exact absurd hi List.not_mem_nil
  · intro i hi; exact absurd hi List.not_mem_nil
  · intro i hi; exact absurd hi List.not_mem_nil
theorem rv_X7_byteAt : q_rcv q_T yX7_byteAt.cls sp_X7_byteAt := by
  intro ra μ K h
  obtain ⟨this, place, rfl, h⟩ := sp_X7_byteAt_i h
  obtain rfl := h.1
  exact ⟨[.inl place], 13, 7, _, _, rfl, T_13, rfl, rfl⟩
theorem cm_X7_byteAt : Cond.code yX7_byteAt cX7_byteAt 2 (some .char) ∈ q_tb := by decide +kernel
def sp_X7_isLetter : QP := fun ra μ K => match ra with
  | [.inl place, .inr (.inr this)] => this = 13 ∧ q_r place ∧ m_tp (μ 14) (μ 13 1) ∧ K (some (.inl (q_b (m_sml (c_by (μ 14) (μ 13 1) place))))) μ
  | _ => False
theorem sp_X7_isLetter_e (this place : Int) (μ : QM) (K : Option QV → QM → Prop) : sp_X7_isLetter [.inl place, .inr (.inr this)] μ K = (this = 13 ∧ q_r place ∧ m_tp (μ 14) (μ 13 1) ∧ K (some (.inl (q_b (m_sml (c_by (μ 14) (μ 13 1) place))))) μ) := propext Iff.rfl
theorem sp_X7_isLetter_i {ra : List QV} {μ : QM} {K : Option QV → QM → Prop} (h : sp_X7_isLetter ra μ K) : ∃ this place : Int, ra = [.inl place, .inr (.inr this)] ∧ (this = 13 ∧ q_r place ∧ m_tp (μ 14) (μ 13 1) ∧ K (some (.inl (q_b (m_sml (c_by (μ 14) (μ 13 1) place))))) μ) := by
  unfold sp_X7_isLetter at h
  split at h
  · exact ⟨_, _, rfl, h⟩
  · exact h.elim
def rm_X7_isLetter : Room := { frames := 1, cells := 0, slots := 0, locals := 21 }
def G_X7_isLetter : Nat → Nat × QP := fun i => match i with
  | 19 => (2, sp_X7_byteAt)
  | _ => (0, fun _ _ _ => False)
theorem G_X7_isLetter_19 : G_X7_isLetter 19 = (2, sp_X7_byteAt) := id rfl
set_option maxRecDepth 100000 in
set_option maxHeartbeats 4000000 in
theorem B_X7_isLetter : q_Body cX7_isLetter 2 u_X7_isLetter fl_X7 ld_X7 G_X7_isLetter q_T 1 s_X7_isLetter sp_X7_isLetter := by
  intro S Rt hR ra μ h
  obtain ⟨this, place, rfl, h⟩ := sp_X7_isLetter_i h
  refine ⟨by simp [q_sl, q_ct], ?_⟩
  show S 0 [some (.inr (.inr this)), some (.inl place)] [] μ
  obtain ⟨rfl, h1, h2, h3⟩ := h
  have hb := c_by_b h2 place
  refine hR 40 [] 0 _ _ _ rfl ?_
  simp only [v_opt_n, v_opt_s, v_nil, v_iconst, v_bipush, v_sipush, v_lconst0, v_lconst1, v_ldc, v_ldcw, v_ldc2, v_iload0, v_iload1, v_iload2, v_iload3, v_iload, v_lload0, v_lload1, v_lload2, v_lload3, v_lload, v_aload0, v_aload1, v_aload2, v_aload3, v_aload, v_istore0, v_istore1, v_istore2, v_istore3, v_istore, v_lstore0, v_lstore1, v_lstore2, v_lstore3, v_lstore, v_astore0, v_astore1, v_astore2, v_astore3, v_astore, v_iinc, v_iadd, v_isub, v_imul, v_iand, v_ior, v_ixor, v_ishl, v_ishr, v_iushr, v_ineg, v_idiv, v_irem, v_ladd, v_lsub, v_lmul, v_lcmp, v_i2l, v_l2i, v_i2c, v_dup, v_dup2, v_if_eq, v_if_ne, v_if_lt, v_if_ge, v_if_gt, v_if_le, v_ic_eq, v_ic_ne, v_ic_lt, v_ic_ge, v_ic_gt, v_ic_le, v_goto, v_tsw, v_lsw, v_ireturn, v_areturn, v_return, v_iaload, v_laload, v_baload, v_caload, v_aaload, v_iastore, v_lastore, v_bastore, v_castore, v_alen, v_invvi, v_invst, v_invsp, e_int, e_lng, e_ref, e_lg0, e_lg1, e_lg2, e_lg3, e_lg4, e_lg5, e_lg6, e_lg7, e_lg8, e_lg9, e_lg10, e_lg11, e_lg12, e_lg13, e_clrI, e_clrJ, e_clrP, e_clrN, e_s0, e_s1, e_s2, e_s3, e_s4, e_s5, e_s6, e_s7, e_s8, e_s9, e_s10, e_s11, e_s12, e_s13, e_t0, e_t1, e_t2, e_t3, e_t4, e_t5, e_t6, e_t7, e_t8, e_t9, e_t10, e_t11, e_t12, e_t13, e_fd, e_kk, e_k0, e_k1, e_k2, e_k3, e_k4, e_k5, e_k6, e_k7, e_k8, e_k9, e_sv0, e_sv1, e_sv2, e_sv3, e_svc, e_pf0, e_pf1, e_pf2, e_pf3, e_ar, e_aa, e_al, e_sw1, e_sw2, e_ct0, e_ct1, e_ct2, e_cat0, e_cat1, e_rk0, e_rk1, e_rk2, e_inv0, e_inv1, e_inv2, e_inv3, e_inv4, e_inv5, e_inv6, e_o0, e_o1, e_cl, e_cle, e_cg, e_cge, e_ce, e_cr1, e_cr2, e_r, e_R, e_up, Int.cast_ofNat_Int, u_app, false_and, and_false, e_b0, e_b1, e_bn, e_bl, e_bu, Int.reduceLE, Int.reduceLT, Int.reduceEq, Int.reduceNeg, Int.reduceAdd, Int.reduceSub, Int.reduceMul, Nat.reduceLeDiff, Nat.reduceLT, Nat.reduceAdd, Nat.reduceEqDiff, true_and, and_true, true_or, or_true, false_or, or_false, forall_const, not_true_eq_false, not_false_eq_true, true_implies, false_implies, implies_true, and_self, zero_ne_one, one_ne_zero, eq_self, reduceIte, s_X7_isLetter_0, b_X7_isLetter_0, s_X7_isLetter_10, b_X7_isLetter_10, s_X7_isLetter_20, b_X7_isLetter_20, s_X7_isLetter_24, b_X7_isLetter_24, s_X7_isLetter_25, b_X7_isLetter_25, G_X7_isLetter_19, sp_X7_byteAt_e]
  unfold q_b at h3
  refine ⟨h1, h2, by omega, fun c => ?_, fun c => ⟨h1, h2, by omega, fun c1 => ?_, fun c1 => ?_⟩⟩
  · rw [if_neg (by omega)] at h3
    exact h3
  · rw [if_neg (by omega)] at h3
    exact h3
  · rw [if_pos (by omega)] at h3
    exact h3
set_option maxRecDepth 100000 in
theorem C_X7_isLetter {l : Launch} {ad : Int → Nat} {D : va_G} {cy : Nat → ClassId} {Z : State → Prop} (hZ : q_Zg ad Z) : q_Ct l q_T q_N ad D cy Z yX7_isLetter cX7_isLetter 2 (some .boolean) rm_X7_isLetter sp_X7_isLetter := by
  obtain ⟨hf, hg, hld⟩ := q_chkS k_X7_isLetter
  refine q_met (rk := 1) q_wokT (by decide) rfl hf hg hld rfl (q_skS L_X7_isLetter o_X7_isLetter) ?_ ?_ ?_ ?_ B_X7_isLetter
  · intro i hi; exact absurd hi List.not_mem_nil
  · intro i hi
    have hi : i = 19 := by simpa [u_X7_isLetter] using hi
    rcases hi with rfl
    · exact q_crV hZ.1 (C_X7_byteAt hZ) rv_X7_byteAt cm_X7_byteAt (by decide +kernel) (by decide +kernel) (by decide +kernel) (by decide +kernel) (by decide +kernel) ⟨rfl, rfl⟩ (by decide)
  · intro i hi; exact absurd hi List.not_mem_nil
  · intro i hi; exact absurd hi List.not_mem_nil
theorem rv_X7_isLetter : q_rcv q_T yX7_isLetter.cls sp_X7_isLetter := by
  intro ra μ K h
  obtain ⟨this, place, rfl, h⟩ := sp_X7_isLetter_i h
  obtain rfl := h.1
  exact ⟨[.inl place], 13, 7, _, _, rfl, T_13, rfl, rfl⟩
theorem cm_X7_isLetter : Cond.code yX7_isLetter cX7_isLetter 2 (some .boolean) ∈ q_tb := by decide +kernel
def sp_X7_isDigit : QP := fun ra μ K => match ra with
  | [.inl place, .inr (.inr this)] => this = 13 ∧ q_r place ∧ m_tp (μ 14) (μ 13 1) ∧ K (some (.inl (q_b (m_dig (c_by (μ 14) (μ 13 1) place))))) μ
  | _ => False
theorem sp_X7_isDigit_e (this place : Int) (μ : QM) (K : Option QV → QM → Prop) : sp_X7_isDigit [.inl place, .inr (.inr this)] μ K = (this = 13 ∧ q_r place ∧ m_tp (μ 14) (μ 13 1) ∧ K (some (.inl (q_b (m_dig (c_by (μ 14) (μ 13 1) place))))) μ) := propext Iff.rfl
theorem sp_X7_isDigit_i {ra : List QV} {μ : QM} {K : Option QV → QM → Prop} (h : sp_X7_isDigit ra μ K) : ∃ this place : Int, ra = [.inl place, .inr (.inr this)] ∧ (this = 13 ∧ q_r place ∧ m_tp (μ 14) (μ 13 1) ∧ K (some (.inl (q_b (m_dig (c_by (μ 14) (μ 13 1) place))))) μ) := by
  unfold sp_X7_isDigit at h
  split at h
  · exact ⟨_, _, rfl, h⟩
  · exact h.elim
def rm_X7_isDigit : Room := { frames := 1, cells := 0, slots := 0, locals := 21 }
def G_X7_isDigit : Nat → Nat × QP := fun i => match i with
  | 19 => (2, sp_X7_byteAt)
  | _ => (0, fun _ _ _ => False)
theorem G_X7_isDigit_19 : G_X7_isDigit 19 = (2, sp_X7_byteAt) := id rfl
set_option maxRecDepth 100000 in
set_option maxHeartbeats 4000000 in
theorem B_X7_isDigit : q_Body cX7_isDigit 2 u_X7_isDigit fl_X7 ld_X7 G_X7_isDigit q_T 1 s_X7_isDigit sp_X7_isDigit := by
  intro S Rt hR ra μ h
  obtain ⟨this, place, rfl, h⟩ := sp_X7_isDigit_i h
  refine ⟨by simp [q_sl, q_ct], ?_⟩
  show S 0 [some (.inr (.inr this)), some (.inl place)] [] μ
  obtain ⟨rfl, h1, h2, h3⟩ := h
  have hb := c_by_b h2 place
  refine hR 40 [] 0 _ _ _ rfl ?_
  simp only [v_opt_n, v_opt_s, v_nil, v_iconst, v_bipush, v_sipush, v_lconst0, v_lconst1, v_ldc, v_ldcw, v_ldc2, v_iload0, v_iload1, v_iload2, v_iload3, v_iload, v_lload0, v_lload1, v_lload2, v_lload3, v_lload, v_aload0, v_aload1, v_aload2, v_aload3, v_aload, v_istore0, v_istore1, v_istore2, v_istore3, v_istore, v_lstore0, v_lstore1, v_lstore2, v_lstore3, v_lstore, v_astore0, v_astore1, v_astore2, v_astore3, v_astore, v_iinc, v_iadd, v_isub, v_imul, v_iand, v_ior, v_ixor, v_ishl, v_ishr, v_iushr, v_ineg, v_idiv, v_irem, v_ladd, v_lsub, v_lmul, v_lcmp, v_i2l, v_l2i, v_i2c, v_dup, v_dup2, v_if_eq, v_if_ne, v_if_lt, v_if_ge, v_if_gt, v_if_le, v_ic_eq, v_ic_ne, v_ic_lt, v_ic_ge, v_ic_gt, v_ic_le, v_goto, v_tsw, v_lsw, v_ireturn, v_areturn, v_return, v_iaload, v_laload, v_baload, v_caload, v_aaload, v_iastore, v_lastore, v_bastore, v_castore, v_alen, v_invvi, v_invst, v_invsp, e_int, e_lng, e_ref, e_lg0, e_lg1, e_lg2, e_lg3, e_lg4, e_lg5, e_lg6, e_lg7, e_lg8, e_lg9, e_lg10, e_lg11, e_lg12, e_lg13, e_clrI, e_clrJ, e_clrP, e_clrN, e_s0, e_s1, e_s2, e_s3, e_s4, e_s5, e_s6, e_s7, e_s8, e_s9, e_s10, e_s11, e_s12, e_s13, e_t0, e_t1, e_t2, e_t3, e_t4, e_t5, e_t6, e_t7, e_t8, e_t9, e_t10, e_t11, e_t12, e_t13, e_fd, e_kk, e_k0, e_k1, e_k2, e_k3, e_k4, e_k5, e_k6, e_k7, e_k8, e_k9, e_sv0, e_sv1, e_sv2, e_sv3, e_svc, e_pf0, e_pf1, e_pf2, e_pf3, e_ar, e_aa, e_al, e_sw1, e_sw2, e_ct0, e_ct1, e_ct2, e_cat0, e_cat1, e_rk0, e_rk1, e_rk2, e_inv0, e_inv1, e_inv2, e_inv3, e_inv4, e_inv5, e_inv6, e_o0, e_o1, e_cl, e_cle, e_cg, e_cge, e_ce, e_cr1, e_cr2, e_r, e_R, e_up, Int.cast_ofNat_Int, u_app, false_and, and_false, e_b0, e_b1, e_bn, e_bl, e_bu, Int.reduceLE, Int.reduceLT, Int.reduceEq, Int.reduceNeg, Int.reduceAdd, Int.reduceSub, Int.reduceMul, Nat.reduceLeDiff, Nat.reduceLT, Nat.reduceAdd, Nat.reduceEqDiff, true_and, and_true, true_or, or_true, false_or, or_false, forall_const, not_true_eq_false, not_false_eq_true, true_implies, false_implies, implies_true, and_self, zero_ne_one, one_ne_zero, eq_self, reduceIte, s_X7_isDigit_0, b_X7_isDigit_0, s_X7_isDigit_10, b_X7_isDigit_10, s_X7_isDigit_20, b_X7_isDigit_20, s_X7_isDigit_24, b_X7_isDigit_24, s_X7_isDigit_25, b_X7_isDigit_25, G_X7_isDigit_19, sp_X7_byteAt_e]
  unfold q_b at h3
  refine ⟨h1, h2, by omega, fun c => ?_, fun c => ⟨h1, h2, by omega, fun c1 => ?_, fun c1 => ?_⟩⟩
  · rw [if_neg (by omega)] at h3
    exact h3
  · rw [if_neg (by omega)] at h3
    exact h3
  · rw [if_pos (by omega)] at h3
    exact h3
set_option maxRecDepth 100000 in
theorem C_X7_isDigit {l : Launch} {ad : Int → Nat} {D : va_G} {cy : Nat → ClassId} {Z : State → Prop} (hZ : q_Zg ad Z) : q_Ct l q_T q_N ad D cy Z yX7_isDigit cX7_isDigit 2 (some .boolean) rm_X7_isDigit sp_X7_isDigit := by
  obtain ⟨hf, hg, hld⟩ := q_chkS k_X7_isDigit
  refine q_met (rk := 1) q_wokT (by decide) rfl hf hg hld rfl (q_skS L_X7_isDigit o_X7_isDigit) ?_ ?_ ?_ ?_ B_X7_isDigit
  · intro i hi; exact absurd hi List.not_mem_nil
  · intro i hi
    have hi : i = 19 := by simpa [u_X7_isDigit] using hi
    rcases hi with rfl
    · exact q_crV hZ.1 (C_X7_byteAt hZ) rv_X7_byteAt cm_X7_byteAt (by decide +kernel) (by decide +kernel) (by decide +kernel) (by decide +kernel) (by decide +kernel) ⟨rfl, rfl⟩ (by decide)
  · intro i hi; exact absurd hi List.not_mem_nil
  · intro i hi; exact absurd hi List.not_mem_nil
theorem rv_X7_isDigit : q_rcv q_T yX7_isDigit.cls sp_X7_isDigit := by
  intro ra μ K h
  obtain ⟨this, place, rfl, h⟩ := sp_X7_isDigit_i h
  obtain rfl := h.1
  exact ⟨[.inl place], 13, 7, _, _, rfl, T_13, rfl, rfl⟩
theorem cm_X7_isDigit : Cond.code yX7_isDigit cX7_isDigit 2 (some .boolean) ∈ q_tb := by decide +kernel
theorem q_shu : ∀ n : Nat, n < 32 → (((Int32.ofInt (n : Int)).toUInt32 &&& Int32.toUInt32 31).toBitVec % 32).toNat = n := by decide +kernel
theorem bt_ush {a k : Int} (h0 : 0 ≤ k) (h1 : k < 32) (t : Nat) : q_bit (q_ush a k) t = q_bit a (t + k.toNat) := by
  obtain ⟨n, rfl⟩ : ∃ n : Nat, k = (n : Int) := ⟨k.toNat, by omega⟩
  have hs := q_shu n (by omega)
  unfold q_bit q_ush
  rw [q_bv]
  show (((Int32.ofInt a).toUInt32 >>> ((Int32.ofInt (n : Int)).toUInt32 &&& Int32.toUInt32 31)).toBitVec).getLsbD t = _
  rw [UInt32.toBitVec_shiftRight, BitVec.ushiftRight_eq', hs, BitVec.getLsbD_ushiftRight]
  show (BitVec.ofInt 32 a).getLsbD (n + t) = _
  rw [Nat.add_comm, Int.toNat_natCast]
theorem bt_shl8 {a k : Int} (h0 : 0 ≤ k) (h1 : k ≤ 24) (t : Nat) (ht : t < 8) : q_bit (q_shr a k) t = q_bit a (t + k.toNat) := by
  obtain ⟨n, rfl⟩ : ∃ n : Nat, k = (n : Int) := ⟨k.toNat, by omega⟩
  have hs := q_sh n (by omega)
  unfold q_bit q_shr
  rw [q_bv]
  show (((Int32.ofInt a).toBitVec).sshiftRight' ((Int32.ofInt (n : Int) &&& 31).toBitVec.smod 32)).getLsbD t = _
  rw [BitVec.sshiftRight_eq', hs, BitVec.getLsbD_sshiftRight, q_bvo, Int.toNat_natCast]
  have c3 : ¬ 32 ≤ t := by omega
  have c2 : n + t < 32 := by omega
  rw [if_pos c2]
  simp [c3, Nat.add_comm]
theorem q_b255 : ∀ t : Nat, t < 32 → q_bit 255 t = decide (t < 8) := by decide +kernel
theorem q_bytS {v k : Int} (h0 : 0 ≤ k) (h1 : k ≤ 24) : q_and (q_ush v k) 255 = m_byte v k := by
  refine bt_ext (bt_r_and _ _) (bt_r_and _ _) (fun t ht => ?_)
  unfold m_byte
  rw [bt_and, bt_and, q_b255 t ht]
  by_cases c : t < 8
  · rw [bt_ush h0 (by omega), bt_shl8 h0 h1 t c]
  · simp [c]
/-- four bytes behind the tape -/
def c_four (μ : QM) (v : Int) : QM := q_up (q_up (q_up (q_up (q_up μ 14 (μ 13 1) (m_byte v 24)) 14 (μ 13 1 + 1) (m_byte v 16)) 14 (μ 13 1 + 2) (m_byte v 8)) 14 (μ 13 1 + 3) (m_byte v 0)) 13 1 (μ 13 1 + 4)
def sp_X7_append : QP := fun ra μ K => match ra with
  | [.inl fourBytes, .inr (.inr this)] => this = 13 ∧ (0 ≤ μ 13 1 ∧ μ 13 1 ≤ 296) ∧ K none (c_four μ fourBytes)
  | _ => False
theorem sp_X7_append_e (this fourBytes : Int) (μ : QM) (K : Option QV → QM → Prop) : sp_X7_append [.inl fourBytes, .inr (.inr this)] μ K = (this = 13 ∧ (0 ≤ μ 13 1 ∧ μ 13 1 ≤ 296) ∧ K none (c_four μ fourBytes)) := propext Iff.rfl
theorem sp_X7_append_i {ra : List QV} {μ : QM} {K : Option QV → QM → Prop} (h : sp_X7_append ra μ K) : ∃ this fourBytes : Int, ra = [.inl fourBytes, .inr (.inr this)] ∧ (this = 13 ∧ (0 ≤ μ 13 1 ∧ μ 13 1 ≤ 296) ∧ K none (c_four μ fourBytes)) := by
  unfold sp_X7_append at h
  split at h
  · exact ⟨_, _, rfl, h⟩
  · exact h.elim
def rm_X7_append : Room := { frames := 0, cells := 0, slots := 0, locals := 0 }
def G_X7_append : Nat → Nat × QP := fun i => match i with
  | _ => (0, fun _ _ _ => False)
set_option maxRecDepth 100000 in
set_option maxHeartbeats 4000000 in
theorem B_X7_append : q_Body cX7_append 3 u_X7_append fl_X7 ld_X7 G_X7_append q_T 4 s_X7_append sp_X7_append := by
  intro S Rt hR ra μ h
  obtain ⟨this, fourBytes, rfl, h⟩ := sp_X7_append_i h
  refine ⟨by simp [q_sl, q_ct], ?_⟩
  show S 0 [some (.inr (.inr this)), some (.inl fourBytes), none] [] μ
  obtain ⟨rfl, h1, hk⟩ := h
  have b1 := q_bytS (v := fourBytes) (k := 24) (by omega) (by omega)
  have b2 := q_bytS (v := fourBytes) (k := 16) (by omega) (by omega)
  have b3 := q_bytS (v := fourBytes) (k := 8) (by omega) (by omega)
  have b4 := q_bytS (v := fourBytes) (k := 0) (by omega) (by omega)
  have a1 := q_and255 (q_shr fourBytes 24)
  have a2 := q_and255 (q_shr fourBytes 16)
  have a3 := q_and255 (q_shr fourBytes 8)
  have a4 := q_and255 (q_shr fourBytes 0)
  change 0 ≤ m_byte fourBytes 24 ∧ m_byte fourBytes 24 ≤ 255 at a1
  change 0 ≤ m_byte fourBytes 16 ∧ m_byte fourBytes 16 ≤ 255 at a2
  change 0 ≤ m_byte fourBytes 8 ∧ m_byte fourBytes 8 ≤ 255 at a3
  change 0 ≤ m_byte fourBytes 0 ∧ m_byte fourBytes 0 ≤ 255 at a4
  refine hR 40 [] 0 _ _ _ rfl ?_
  simp only [v_opt_n, v_opt_s, v_nil, v_iconst, v_bipush, v_sipush, v_lconst0, v_lconst1, v_ldc, v_ldcw, v_ldc2, v_iload0, v_iload1, v_iload2, v_iload3, v_iload, v_lload0, v_lload1, v_lload2, v_lload3, v_lload, v_aload0, v_aload1, v_aload2, v_aload3, v_aload, v_istore0, v_istore1, v_istore2, v_istore3, v_istore, v_lstore0, v_lstore1, v_lstore2, v_lstore3, v_lstore, v_astore0, v_astore1, v_astore2, v_astore3, v_astore, v_iinc, v_iadd, v_isub, v_imul, v_iand, v_ior, v_ixor, v_ishl, v_ishr, v_iushr, v_ineg, v_idiv, v_irem, v_ladd, v_lsub, v_lmul, v_lcmp, v_i2l, v_l2i, v_i2c, v_dup, v_dup2, v_if_eq, v_if_ne, v_if_lt, v_if_ge, v_if_gt, v_if_le, v_ic_eq, v_ic_ne, v_ic_lt, v_ic_ge, v_ic_gt, v_ic_le, v_goto, v_tsw, v_lsw, v_ireturn, v_areturn, v_return, v_iaload, v_laload, v_baload, v_caload, v_aaload, v_iastore, v_lastore, v_bastore, v_castore, v_alen, v_invvi, v_invst, v_invsp, e_int, e_lng, e_ref, e_lg0, e_lg1, e_lg2, e_lg3, e_lg4, e_lg5, e_lg6, e_lg7, e_lg8, e_lg9, e_lg10, e_lg11, e_lg12, e_lg13, e_clrI, e_clrJ, e_clrP, e_clrN, e_s0, e_s1, e_s2, e_s3, e_s4, e_s5, e_s6, e_s7, e_s8, e_s9, e_s10, e_s11, e_s12, e_s13, e_t0, e_t1, e_t2, e_t3, e_t4, e_t5, e_t6, e_t7, e_t8, e_t9, e_t10, e_t11, e_t12, e_t13, e_fd, e_kk, e_k0, e_k1, e_k2, e_k3, e_k4, e_k5, e_k6, e_k7, e_k8, e_k9, e_sv0, e_sv1, e_sv2, e_sv3, e_svc, e_pf0, e_pf1, e_pf2, e_pf3, e_ar, e_aa, e_al, e_sw1, e_sw2, e_ct0, e_ct1, e_ct2, e_cat0, e_cat1, e_rk0, e_rk1, e_rk2, e_inv0, e_inv1, e_inv2, e_inv3, e_inv4, e_inv5, e_inv6, e_o0, e_o1, e_cl, e_cle, e_cg, e_cge, e_ce, e_cr1, e_cr2, e_r, e_R, e_up, Int.cast_ofNat_Int, u_app, false_and, and_false, e_b0, e_b1, e_bn, e_bl, e_bu, Int.reduceLE, Int.reduceLT, Int.reduceEq, Int.reduceNeg, Int.reduceAdd, Int.reduceSub, Int.reduceMul, Nat.reduceLeDiff, Nat.reduceLT, Nat.reduceAdd, Nat.reduceEqDiff, true_and, and_true, true_or, or_true, false_or, or_false, forall_const, not_true_eq_false, not_false_eq_true, true_implies, false_implies, implies_true, and_self, zero_ne_one, one_ne_zero, eq_self, reduceIte, s_X7_append_0, b_X7_append_0, s_X7_append_3, b_X7_append_3, s_X7_append_7, b_X7_append_7, s_X7_append_17, b_X7_append_17, s_X7_append_44, b_X7_append_44, s_X7_append_50, b_X7_append_50, g_X7_15, p_X7_15, g_X7_9]
  refine hR 40 b_X7_append_3 3 _ _ _ o_X7_append_3 ?_
  simp only [v_opt_n, v_opt_s, v_nil, v_iconst, v_bipush, v_sipush, v_lconst0, v_lconst1, v_ldc, v_ldcw, v_ldc2, v_iload0, v_iload1, v_iload2, v_iload3, v_iload, v_lload0, v_lload1, v_lload2, v_lload3, v_lload, v_aload0, v_aload1, v_aload2, v_aload3, v_aload, v_istore0, v_istore1, v_istore2, v_istore3, v_istore, v_lstore0, v_lstore1, v_lstore2, v_lstore3, v_lstore, v_astore0, v_astore1, v_astore2, v_astore3, v_astore, v_iinc, v_iadd, v_isub, v_imul, v_iand, v_ior, v_ixor, v_ishl, v_ishr, v_iushr, v_ineg, v_idiv, v_irem, v_ladd, v_lsub, v_lmul, v_lcmp, v_i2l, v_l2i, v_i2c, v_dup, v_dup2, v_if_eq, v_if_ne, v_if_lt, v_if_ge, v_if_gt, v_if_le, v_ic_eq, v_ic_ne, v_ic_lt, v_ic_ge, v_ic_gt, v_ic_le, v_goto, v_tsw, v_lsw, v_ireturn, v_areturn, v_return, v_iaload, v_laload, v_baload, v_caload, v_aaload, v_iastore, v_lastore, v_bastore, v_castore, v_alen, v_invvi, v_invst, v_invsp, e_int, e_lng, e_ref, e_lg0, e_lg1, e_lg2, e_lg3, e_lg4, e_lg5, e_lg6, e_lg7, e_lg8, e_lg9, e_lg10, e_lg11, e_lg12, e_lg13, e_clrI, e_clrJ, e_clrP, e_clrN, e_s0, e_s1, e_s2, e_s3, e_s4, e_s5, e_s6, e_s7, e_s8, e_s9, e_s10, e_s11, e_s12, e_s13, e_t0, e_t1, e_t2, e_t3, e_t4, e_t5, e_t6, e_t7, e_t8, e_t9, e_t10, e_t11, e_t12, e_t13, e_fd, e_kk, e_k0, e_k1, e_k2, e_k3, e_k4, e_k5, e_k6, e_k7, e_k8, e_k9, e_sv0, e_sv1, e_sv2, e_sv3, e_svc, e_pf0, e_pf1, e_pf2, e_pf3, e_ar, e_aa, e_al, e_sw1, e_sw2, e_ct0, e_ct1, e_ct2, e_cat0, e_cat1, e_rk0, e_rk1, e_rk2, e_inv0, e_inv1, e_inv2, e_inv3, e_inv4, e_inv5, e_inv6, e_o0, e_o1, e_cl, e_cle, e_cg, e_cge, e_ce, e_cr1, e_cr2, e_r, e_R, e_up, Int.cast_ofNat_Int, u_app, false_and, and_false, e_b0, e_b1, e_bn, e_bl, e_bu, Int.reduceLE, Int.reduceLT, Int.reduceEq, Int.reduceNeg, Int.reduceAdd, Int.reduceSub, Int.reduceMul, Nat.reduceLeDiff, Nat.reduceLT, Nat.reduceAdd, Nat.reduceEqDiff, true_and, and_true, true_or, or_true, false_or, or_false, forall_const, not_true_eq_false, not_false_eq_true, true_implies, false_implies, implies_true, and_self, zero_ne_one, one_ne_zero, eq_self, reduceIte, s_X7_append_0, b_X7_append_0, s_X7_append_3, b_X7_append_3, s_X7_append_7, b_X7_append_7, s_X7_append_17, b_X7_append_17, s_X7_append_44, b_X7_append_44, s_X7_append_50, b_X7_append_50, g_X7_15, p_X7_15, g_X7_9, T_14, b1]
  refine ⟨by omega, fun c => by omega, fun c => ⟨by omega, by omega, by omega, by omega, ?_⟩⟩
  refine hR 40 b_X7_append_3 3 _ _ _ o_X7_append_3 ?_
  simp only [v_opt_n, v_opt_s, v_nil, v_iconst, v_bipush, v_sipush, v_lconst0, v_lconst1, v_ldc, v_ldcw, v_ldc2, v_iload0, v_iload1, v_iload2, v_iload3, v_iload, v_lload0, v_lload1, v_lload2, v_lload3, v_lload, v_aload0, v_aload1, v_aload2, v_aload3, v_aload, v_istore0, v_istore1, v_istore2, v_istore3, v_istore, v_lstore0, v_lstore1, v_lstore2, v_lstore3, v_lstore, v_astore0, v_astore1, v_astore2, v_astore3, v_astore, v_iinc, v_iadd, v_isub, v_imul, v_iand, v_ior, v_ixor, v_ishl, v_ishr, v_iushr, v_ineg, v_idiv, v_irem, v_ladd, v_lsub, v_lmul, v_lcmp, v_i2l, v_l2i, v_i2c, v_dup, v_dup2, v_if_eq, v_if_ne, v_if_lt, v_if_ge, v_if_gt, v_if_le, v_ic_eq, v_ic_ne, v_ic_lt, v_ic_ge, v_ic_gt, v_ic_le, v_goto, v_tsw, v_lsw, v_ireturn, v_areturn, v_return, v_iaload, v_laload, v_baload, v_caload, v_aaload, v_iastore, v_lastore, v_bastore, v_castore, v_alen, v_invvi, v_invst, v_invsp, e_int, e_lng, e_ref, e_lg0, e_lg1, e_lg2, e_lg3, e_lg4, e_lg5, e_lg6, e_lg7, e_lg8, e_lg9, e_lg10, e_lg11, e_lg12, e_lg13, e_clrI, e_clrJ, e_clrP, e_clrN, e_s0, e_s1, e_s2, e_s3, e_s4, e_s5, e_s6, e_s7, e_s8, e_s9, e_s10, e_s11, e_s12, e_s13, e_t0, e_t1, e_t2, e_t3, e_t4, e_t5, e_t6, e_t7, e_t8, e_t9, e_t10, e_t11, e_t12, e_t13, e_fd, e_kk, e_k0, e_k1, e_k2, e_k3, e_k4, e_k5, e_k6, e_k7, e_k8, e_k9, e_sv0, e_sv1, e_sv2, e_sv3, e_svc, e_pf0, e_pf1, e_pf2, e_pf3, e_ar, e_aa, e_al, e_sw1, e_sw2, e_ct0, e_ct1, e_ct2, e_cat0, e_cat1, e_rk0, e_rk1, e_rk2, e_inv0, e_inv1, e_inv2, e_inv3, e_inv4, e_inv5, e_inv6, e_o0, e_o1, e_cl, e_cle, e_cg, e_cge, e_ce, e_cr1, e_cr2, e_r, e_R, e_up, Int.cast_ofNat_Int, u_app, false_and, and_false, e_b0, e_b1, e_bn, e_bl, e_bu, Int.reduceLE, Int.reduceLT, Int.reduceEq, Int.reduceNeg, Int.reduceAdd, Int.reduceSub, Int.reduceMul, Nat.reduceLeDiff, Nat.reduceLT, Nat.reduceAdd, Nat.reduceEqDiff, true_and, and_true, true_or, or_true, false_or, or_false, forall_const, not_true_eq_false, not_false_eq_true, true_implies, false_implies, implies_true, and_self, zero_ne_one, one_ne_zero, eq_self, reduceIte, s_X7_append_0, b_X7_append_0, s_X7_append_3, b_X7_append_3, s_X7_append_7, b_X7_append_7, s_X7_append_17, b_X7_append_17, s_X7_append_44, b_X7_append_44, s_X7_append_50, b_X7_append_50, g_X7_15, p_X7_15, g_X7_9, T_14, b2]
  refine ⟨by omega, fun c => by omega, fun c => ⟨by omega, by omega, by omega, by omega, ?_⟩⟩
  refine hR 40 b_X7_append_3 3 _ _ _ o_X7_append_3 ?_
  simp only [v_opt_n, v_opt_s, v_nil, v_iconst, v_bipush, v_sipush, v_lconst0, v_lconst1, v_ldc, v_ldcw, v_ldc2, v_iload0, v_iload1, v_iload2, v_iload3, v_iload, v_lload0, v_lload1, v_lload2, v_lload3, v_lload, v_aload0, v_aload1, v_aload2, v_aload3, v_aload, v_istore0, v_istore1, v_istore2, v_istore3, v_istore, v_lstore0, v_lstore1, v_lstore2, v_lstore3, v_lstore, v_astore0, v_astore1, v_astore2, v_astore3, v_astore, v_iinc, v_iadd, v_isub, v_imul, v_iand, v_ior, v_ixor, v_ishl, v_ishr, v_iushr, v_ineg, v_idiv, v_irem, v_ladd, v_lsub, v_lmul, v_lcmp, v_i2l, v_l2i, v_i2c, v_dup, v_dup2, v_if_eq, v_if_ne, v_if_lt, v_if_ge, v_if_gt, v_if_le, v_ic_eq, v_ic_ne, v_ic_lt, v_ic_ge, v_ic_gt, v_ic_le, v_goto, v_tsw, v_lsw, v_ireturn, v_areturn, v_return, v_iaload, v_laload, v_baload, v_caload, v_aaload, v_iastore, v_lastore, v_bastore, v_castore, v_alen, v_invvi, v_invst, v_invsp, e_int, e_lng, e_ref, e_lg0, e_lg1, e_lg2, e_lg3, e_lg4, e_lg5, e_lg6, e_lg7, e_lg8, e_lg9, e_lg10, e_lg11, e_lg12, e_lg13, e_clrI, e_clrJ, e_clrP, e_clrN, e_s0, e_s1, e_s2, e_s3, e_s4, e_s5, e_s6, e_s7, e_s8, e_s9, e_s10, e_s11, e_s12, e_s13, e_t0, e_t1, e_t2, e_t3, e_t4, e_t5, e_t6, e_t7, e_t8, e_t9, e_t10, e_t11, e_t12, e_t13, e_fd, e_kk, e_k0, e_k1, e_k2, e_k3, e_k4, e_k5, e_k6, e_k7, e_k8, e_k9, e_sv0, e_sv1, e_sv2, e_sv3, e_svc, e_pf0, e_pf1, e_pf2, e_pf3, e_ar, e_aa, e_al, e_sw1, e_sw2, e_ct0, e_ct1, e_ct2, e_cat0, e_cat1, e_rk0, e_rk1, e_rk2, e_inv0, e_inv1, e_inv2, e_inv3, e_inv4, e_inv5, e_inv6, e_o0, e_o1, e_cl, e_cle, e_cg, e_cge, e_ce, e_cr1, e_cr2, e_r, e_R, e_up, Int.cast_ofNat_Int, u_app, false_and, and_false, e_b0, e_b1, e_bn, e_bl, e_bu, Int.reduceLE, Int.reduceLT, Int.reduceEq, Int.reduceNeg, Int.reduceAdd, Int.reduceSub, Int.reduceMul, Nat.reduceLeDiff, Nat.reduceLT, Nat.reduceAdd, Nat.reduceEqDiff, true_and, and_true, true_or, or_true, false_or, or_false, forall_const, not_true_eq_false, not_false_eq_true, true_implies, false_implies, implies_true, and_self, zero_ne_one, one_ne_zero, eq_self, reduceIte, s_X7_append_0, b_X7_append_0, s_X7_append_3, b_X7_append_3, s_X7_append_7, b_X7_append_7, s_X7_append_17, b_X7_append_17, s_X7_append_44, b_X7_append_44, s_X7_append_50, b_X7_append_50, g_X7_15, p_X7_15, g_X7_9, T_14, b3]
  refine ⟨by omega, fun c => by omega, fun c => ⟨by omega, by omega, by omega, by omega, ?_⟩⟩
  refine hR 40 b_X7_append_3 3 _ _ _ o_X7_append_3 ?_
  simp only [v_opt_n, v_opt_s, v_nil, v_iconst, v_bipush, v_sipush, v_lconst0, v_lconst1, v_ldc, v_ldcw, v_ldc2, v_iload0, v_iload1, v_iload2, v_iload3, v_iload, v_lload0, v_lload1, v_lload2, v_lload3, v_lload, v_aload0, v_aload1, v_aload2, v_aload3, v_aload, v_istore0, v_istore1, v_istore2, v_istore3, v_istore, v_lstore0, v_lstore1, v_lstore2, v_lstore3, v_lstore, v_astore0, v_astore1, v_astore2, v_astore3, v_astore, v_iinc, v_iadd, v_isub, v_imul, v_iand, v_ior, v_ixor, v_ishl, v_ishr, v_iushr, v_ineg, v_idiv, v_irem, v_ladd, v_lsub, v_lmul, v_lcmp, v_i2l, v_l2i, v_i2c, v_dup, v_dup2, v_if_eq, v_if_ne, v_if_lt, v_if_ge, v_if_gt, v_if_le, v_ic_eq, v_ic_ne, v_ic_lt, v_ic_ge, v_ic_gt, v_ic_le, v_goto, v_tsw, v_lsw, v_ireturn, v_areturn, v_return, v_iaload, v_laload, v_baload, v_caload, v_aaload, v_iastore, v_lastore, v_bastore, v_castore, v_alen, v_invvi, v_invst, v_invsp, e_int, e_lng, e_ref, e_lg0, e_lg1, e_lg2, e_lg3, e_lg4, e_lg5, e_lg6, e_lg7, e_lg8, e_lg9, e_lg10, e_lg11, e_lg12, e_lg13, e_clrI, e_clrJ, e_clrP, e_clrN, e_s0, e_s1, e_s2, e_s3, e_s4, e_s5, e_s6, e_s7, e_s8, e_s9, e_s10, e_s11, e_s12, e_s13, e_t0, e_t1, e_t2, e_t3, e_t4, e_t5, e_t6, e_t7, e_t8, e_t9, e_t10, e_t11, e_t12, e_t13, e_fd, e_kk, e_k0, e_k1, e_k2, e_k3, e_k4, e_k5, e_k6, e_k7, e_k8, e_k9, e_sv0, e_sv1, e_sv2, e_sv3, e_svc, e_pf0, e_pf1, e_pf2, e_pf3, e_ar, e_aa, e_al, e_sw1, e_sw2, e_ct0, e_ct1, e_ct2, e_cat0, e_cat1, e_rk0, e_rk1, e_rk2, e_inv0, e_inv1, e_inv2, e_inv3, e_inv4, e_inv5, e_inv6, e_o0, e_o1, e_cl, e_cle, e_cg, e_cge, e_ce, e_cr1, e_cr2, e_r, e_R, e_up, Int.cast_ofNat_Int, u_app, false_and, and_false, e_b0, e_b1, e_bn, e_bl, e_bu, Int.reduceLE, Int.reduceLT, Int.reduceEq, Int.reduceNeg, Int.reduceAdd, Int.reduceSub, Int.reduceMul, Nat.reduceLeDiff, Nat.reduceLT, Nat.reduceAdd, Nat.reduceEqDiff, true_and, and_true, true_or, or_true, false_or, or_false, forall_const, not_true_eq_false, not_false_eq_true, true_implies, false_implies, implies_true, and_self, zero_ne_one, one_ne_zero, eq_self, reduceIte, s_X7_append_0, b_X7_append_0, s_X7_append_3, b_X7_append_3, s_X7_append_7, b_X7_append_7, s_X7_append_17, b_X7_append_17, s_X7_append_44, b_X7_append_44, s_X7_append_50, b_X7_append_50, g_X7_15, p_X7_15, g_X7_9, T_14, b4]
  refine ⟨by omega, fun c => by omega, fun c => ⟨by omega, by omega, by omega, by omega, ?_⟩⟩
  refine hR 40 b_X7_append_3 3 _ _ _ o_X7_append_3 ?_
  simp only [v_opt_n, v_opt_s, v_nil, v_iconst, v_bipush, v_sipush, v_lconst0, v_lconst1, v_ldc, v_ldcw, v_ldc2, v_iload0, v_iload1, v_iload2, v_iload3, v_iload, v_lload0, v_lload1, v_lload2, v_lload3, v_lload, v_aload0, v_aload1, v_aload2, v_aload3, v_aload, v_istore0, v_istore1, v_istore2, v_istore3, v_istore, v_lstore0, v_lstore1, v_lstore2, v_lstore3, v_lstore, v_astore0, v_astore1, v_astore2, v_astore3, v_astore, v_iinc, v_iadd, v_isub, v_imul, v_iand, v_ior, v_ixor, v_ishl, v_ishr, v_iushr, v_ineg, v_idiv, v_irem, v_ladd, v_lsub, v_lmul, v_lcmp, v_i2l, v_l2i, v_i2c, v_dup, v_dup2, v_if_eq, v_if_ne, v_if_lt, v_if_ge, v_if_gt, v_if_le, v_ic_eq, v_ic_ne, v_ic_lt, v_ic_ge, v_ic_gt, v_ic_le, v_goto, v_tsw, v_lsw, v_ireturn, v_areturn, v_return, v_iaload, v_laload, v_baload, v_caload, v_aaload, v_iastore, v_lastore, v_bastore, v_castore, v_alen, v_invvi, v_invst, v_invsp, e_int, e_lng, e_ref, e_lg0, e_lg1, e_lg2, e_lg3, e_lg4, e_lg5, e_lg6, e_lg7, e_lg8, e_lg9, e_lg10, e_lg11, e_lg12, e_lg13, e_clrI, e_clrJ, e_clrP, e_clrN, e_s0, e_s1, e_s2, e_s3, e_s4, e_s5, e_s6, e_s7, e_s8, e_s9, e_s10, e_s11, e_s12, e_s13, e_t0, e_t1, e_t2, e_t3, e_t4, e_t5, e_t6, e_t7, e_t8, e_t9, e_t10, e_t11, e_t12, e_t13, e_fd, e_kk, e_k0, e_k1, e_k2, e_k3, e_k4, e_k5, e_k6, e_k7, e_k8, e_k9, e_sv0, e_sv1, e_sv2, e_sv3, e_svc, e_pf0, e_pf1, e_pf2, e_pf3, e_ar, e_aa, e_al, e_sw1, e_sw2, e_ct0, e_ct1, e_ct2, e_cat0, e_cat1, e_rk0, e_rk1, e_rk2, e_inv0, e_inv1, e_inv2, e_inv3, e_inv4, e_inv5, e_inv6, e_o0, e_o1, e_cl, e_cle, e_cg, e_cge, e_ce, e_cr1, e_cr2, e_r, e_R, e_up, Int.cast_ofNat_Int, u_app, false_and, and_false, e_b0, e_b1, e_bn, e_bl, e_bu, Int.reduceLE, Int.reduceLT, Int.reduceEq, Int.reduceNeg, Int.reduceAdd, Int.reduceSub, Int.reduceMul, Nat.reduceLeDiff, Nat.reduceLT, Nat.reduceAdd, Nat.reduceEqDiff, true_and, and_true, true_or, or_true, false_or, or_false, forall_const, not_true_eq_false, not_false_eq_true, true_implies, false_implies, implies_true, and_self, zero_ne_one, one_ne_zero, eq_self, reduceIte, s_X7_append_0, b_X7_append_0, s_X7_append_3, b_X7_append_3, s_X7_append_7, b_X7_append_7, s_X7_append_17, b_X7_append_17, s_X7_append_44, b_X7_append_44, s_X7_append_50, b_X7_append_50, g_X7_15, p_X7_15, g_X7_9]
  unfold c_four at hk
  have e : ∀ (ν : QM) (a1 a2 a3 b0 b1 b2 b3 t1 t2 t3 t4 : Int), q_up (q_up (q_up (q_up (q_up (q_up (q_up (q_up ν 14 a1 b0) 13 1 t1) 14 a2 b1) 13 1 t2) 14 a3 b2) 13 1 t3) 14 (a3 + 1) b3) 13 1 t4 = q_up (q_up (q_up (q_up (q_up ν 14 a1 b0) 14 a2 b1) 14 a3 b2) 14 (a3 + 1) b3) 13 1 t4 := by
    intro ν a1 a2 a3 b0 b1 b2 b3 t1 t2 t3 t4
    rw [u_comm (a := 13) (b := 14) (by decide), u_twice, u_comm (a := 13) (b := 14) (by decide), u_comm (a := 13) (b := 14) (by decide), u_twice, u_comm (a := 13) (b := 14) (by decide), u_comm (a := 13) (b := 14) (by decide), u_comm (a := 13) (b := 14) (by decide), u_twice]
  rw [show μ 13 1 + 3 = μ 13 1 + 2 + 1 by omega, show μ 13 1 + 2 = μ 13 1 + 1 + 1 by omega, show μ 13 1 + 4 = μ 13 1 + 1 + 1 + 1 + 1 by omega] at hk
  rw [e]
  exact hk
set_option maxRecDepth 100000 in
theorem C_X7_append {l : Launch} {ad : Int → Nat} {D : va_G} {cy : Nat → ClassId} {Z : State → Prop} (hZ : q_Zg ad Z) : q_Ct l q_T q_N ad D cy Z yX7_append cX7_append 3 none rm_X7_append sp_X7_append := by
  obtain ⟨hf, hg, hld⟩ := q_chkS k_X7_append
  refine q_met (rk := 4) q_wokT (by decide) rfl hf hg hld rfl (q_skS L_X7_append o_X7_append) ?_ ?_ ?_ ?_ B_X7_append
  · intro i hi; exact absurd hi List.not_mem_nil
  · intro i hi; exact absurd hi List.not_mem_nil
  · intro i hi; exact absurd hi List.not_mem_nil
  · intro i hi; exact absurd hi List.not_mem_nil
theorem rv_X7_append : q_rcv q_T yX7_append.cls sp_X7_append := by
  intro ra μ K h
  obtain ⟨this, fourBytes, rfl, h⟩ := sp_X7_append_i h
  obtain rfl := h.1
  exact ⟨[.inl fourBytes], 13, 7, _, _, rfl, T_13, rfl, rfl⟩
theorem cm_X7_append : Cond.code yX7_append cX7_append 3 none ∈ q_tb := by decide +kernel
theorem c_four_t (μ : QM) (v : Int) : c_four μ v 13 1 = μ 13 1 + 4 := by
  unfold c_four
  rw [u_app, if_pos ⟨rfl, rfl⟩]
def sp_X10_feed : QP := fun ra μ K => match ra with
  | [.inl e, .inl d, .inl c, .inl b, .inl a, .inr (.inr this)] => this = 0 ∧ (0 ≤ μ 13 1 ∧ μ 13 1 ≤ 300) ∧ (if μ 13 1 + 20 ≤ 300 then K (some (.inl (μ 13 1 + 20))) (c_four (c_four (c_four (c_four (c_four μ a) b) c) d) e) else K (some (.inl (-1))) μ)
  | _ => False
theorem sp_X10_feed_e (this a b c d e : Int) (μ : QM) (K : Option QV → QM → Prop) : sp_X10_feed [.inl e, .inl d, .inl c, .inl b, .inl a, .inr (.inr this)] μ K = (this = 0 ∧ (0 ≤ μ 13 1 ∧ μ 13 1 ≤ 300) ∧ (if μ 13 1 + 20 ≤ 300 then K (some (.inl (μ 13 1 + 20))) (c_four (c_four (c_four (c_four (c_four μ a) b) c) d) e) else K (some (.inl (-1))) μ)) := propext Iff.rfl
theorem sp_X10_feed_i {ra : List QV} {μ : QM} {K : Option QV → QM → Prop} (h : sp_X10_feed ra μ K) : ∃ this a b c d e : Int, ra = [.inl e, .inl d, .inl c, .inl b, .inl a, .inr (.inr this)] ∧ (this = 0 ∧ (0 ≤ μ 13 1 ∧ μ 13 1 ≤ 300) ∧ (if μ 13 1 + 20 ≤ 300 then K (some (.inl (μ 13 1 + 20))) (c_four (c_four (c_four (c_four (c_four μ a) b) c) d) e) else K (some (.inl (-1))) μ)) := by
  unfold sp_X10_feed at h
  split at h
  · exact ⟨_, _, _, _, _, _, rfl, h⟩
  · exact h.elim
def rm_X10_feed : Room := { frames := 1, cells := 0, slots := 0, locals := 22 }
def G_X10_feed : Nat → Nat × QP := fun i => match i with
  | 107 => (2, sp_X7_hasRoom)
  | 110 => (2, sp_X7_append)
  | _ => (0, fun _ _ _ => False)
theorem G_X10_feed_107 : G_X10_feed 107 = (2, sp_X7_hasRoom) := id rfl
theorem G_X10_feed_110 : G_X10_feed 110 = (2, sp_X7_append) := id rfl
set_option maxRecDepth 100000 in
set_option maxHeartbeats 4000000 in
theorem B_X10_feed : q_Body cX10_feed 6 u_X10_feed fl_X10 ld_X10 G_X10_feed q_T 0 s_X10_feed sp_X10_feed := by
  intro S Rt hR ra μ h
  obtain ⟨this, a, b, c, d, e, rfl, h⟩ := sp_X10_feed_i h
  refine ⟨by simp [q_sl, q_ct], ?_⟩
  show S 0 [some (.inr (.inr this)), some (.inl a), some (.inl b), some (.inl c), some (.inl d), some (.inl e)] [] μ
  obtain ⟨rfl, h1, hk⟩ := h
  refine hR 60 [] 0 _ _ _ rfl ?_
  simp only [v_opt_n, v_opt_s, v_nil, v_iconst, v_bipush, v_sipush, v_lconst0, v_lconst1, v_ldc, v_ldcw, v_ldc2, v_iload0, v_iload1, v_iload2, v_iload3, v_iload, v_lload0, v_lload1, v_lload2, v_lload3, v_lload, v_aload0, v_aload1, v_aload2, v_aload3, v_aload, v_istore0, v_istore1, v_istore2, v_istore3, v_istore, v_lstore0, v_lstore1, v_lstore2, v_lstore3, v_lstore, v_astore0, v_astore1, v_astore2, v_astore3, v_astore, v_iinc, v_iadd, v_isub, v_imul, v_iand, v_ior, v_ixor, v_ishl, v_ishr, v_iushr, v_ineg, v_idiv, v_irem, v_ladd, v_lsub, v_lmul, v_lcmp, v_i2l, v_l2i, v_i2c, v_dup, v_dup2, v_if_eq, v_if_ne, v_if_lt, v_if_ge, v_if_gt, v_if_le, v_ic_eq, v_ic_ne, v_ic_lt, v_ic_ge, v_ic_gt, v_ic_le, v_goto, v_tsw, v_lsw, v_ireturn, v_areturn, v_return, v_iaload, v_laload, v_baload, v_caload, v_aaload, v_iastore, v_lastore, v_bastore, v_castore, v_alen, v_invvi, v_invst, v_invsp, e_int, e_lng, e_ref, e_lg0, e_lg1, e_lg2, e_lg3, e_lg4, e_lg5, e_lg6, e_lg7, e_lg8, e_lg9, e_lg10, e_lg11, e_lg12, e_lg13, e_clrI, e_clrJ, e_clrP, e_clrN, e_s0, e_s1, e_s2, e_s3, e_s4, e_s5, e_s6, e_s7, e_s8, e_s9, e_s10, e_s11, e_s12, e_s13, e_t0, e_t1, e_t2, e_t3, e_t4, e_t5, e_t6, e_t7, e_t8, e_t9, e_t10, e_t11, e_t12, e_t13, e_fd, e_kk, e_k0, e_k1, e_k2, e_k3, e_k4, e_k5, e_k6, e_k7, e_k8, e_k9, e_sv0, e_sv1, e_sv2, e_sv3, e_svc, e_pf0, e_pf1, e_pf2, e_pf3, e_ar, e_aa, e_al, e_sw1, e_sw2, e_ct0, e_ct1, e_ct2, e_cat0, e_cat1, e_rk0, e_rk1, e_rk2, e_inv0, e_inv1, e_inv2, e_inv3, e_inv4, e_inv5, e_inv6, e_o0, e_o1, e_cl, e_cle, e_cg, e_cge, e_ce, e_cr1, e_cr2, e_r, e_R, e_up, Int.cast_ofNat_Int, u_app, false_and, and_false, e_b0, e_b1, e_bn, e_bl, e_bu, Int.reduceLE, Int.reduceLT, Int.reduceEq, Int.reduceNeg, Int.reduceAdd, Int.reduceSub, Int.reduceMul, Nat.reduceLeDiff, Nat.reduceLT, Nat.reduceAdd, Nat.reduceEqDiff, true_and, and_true, true_or, or_true, false_or, or_false, forall_const, not_true_eq_false, not_false_eq_true, true_implies, false_implies, implies_true, and_self, zero_ne_one, one_ne_zero, eq_self, reduceIte, s_X10_feed_0, b_X10_feed_0, s_X10_feed_12, b_X10_feed_12, s_X10_feed_14, b_X10_feed_14, g_X10_26, g_X10_114, G_X10_feed_107, sp_X7_hasRoom_e, G_X10_feed_110, sp_X7_append_e, c_four_t]
  refine ⟨h1, fun q => ?_, fun q => ?_⟩
  · have q := Classical.not_not.mp q
    rw [if_pos q] at hk
    refine ⟨by omega, by omega, by omega, by omega, by omega, ?_⟩
    rw [show μ 13 1 + 4 + 4 + 4 + 4 + 4 = μ 13 1 + 20 by omega]
    exact hk
  · rw [if_neg q] at hk
    exact hk
set_option maxRecDepth 100000 in
theorem C_X10_feed {l : Launch} {ad : Int → Nat} {D : va_G} {cy : Nat → ClassId} {Z : State → Prop} (hZ : q_Zg ad Z) : q_Ct l q_T q_N ad D cy Z yX10_feed cX10_feed 6 (some .int) rm_X10_feed sp_X10_feed := by
  obtain ⟨hf, hg, hld⟩ := q_chkS k_X10_feed
  refine q_met (rk := 0) q_wokT (by decide) rfl hf hg hld rfl (q_skS L_X10_feed o_X10_feed) ?_ ?_ ?_ ?_ B_X10_feed
  · intro i hi; exact absurd hi List.not_mem_nil
  · intro i hi
    have hi : i = 107 ∨ i = 110 := by simpa [u_X10_feed] using hi
    rcases hi with rfl | rfl
    · exact q_crV hZ.1 (C_X7_hasRoom hZ) rv_X7_hasRoom cm_X7_hasRoom (by decide +kernel) (by decide +kernel) (by decide +kernel) (by decide +kernel) (by decide +kernel) ⟨rfl, rfl⟩ (by decide)
    · exact q_crV hZ.1 (C_X7_append hZ) rv_X7_append cm_X7_append (by decide +kernel) (by decide +kernel) (by decide +kernel) (by decide +kernel) (by decide +kernel) ⟨rfl, rfl⟩ (by decide)
  · intro i hi; exact absurd hi List.not_mem_nil
  · intro i hi; exact absurd hi List.not_mem_nil
theorem rv_X10_feed : q_rcv q_T yX10_feed.cls sp_X10_feed := by
  intro ra μ K h
  obtain ⟨this, a, b, c, d, e, rfl, h⟩ := sp_X10_feed_i h
  obtain rfl := h.1
  exact ⟨[.inl e, .inl d, .inl c, .inl b, .inl a], 0, 10, _, _, rfl, T_0, rfl, rfl⟩
theorem cm_X10_feed : Cond.code yX10_feed cX10_feed 6 (some .int) ∈ q_tb := by decide +kernel
/-! the tally -/
def c_tl (s : QT) (ν : QM) : Prop := ν 35 3 = s.1 ∧ ν 35 0 = s.2.1 ∧ (¬ s.1 = 0 → ν 35 2 = s.2.2.1 ∧ ν 35 1 = s.2.2.2) ∧ (s.1 = 0 → ν 35 1 = -1000000000 ∧ ν 35 2 = 1000000000)
def sp_X6_clear : QP := fun ra μ K => match ra with
  | [.inr (.inr this)] => this = 35 ∧ ∀ ν : QM, (∀ a j : Int, ¬ a = 35 → ν a j = μ a j) → c_tl (0, 0, 0, 0) ν → K none ν
  | _ => False
theorem sp_X6_clear_e (this : Int) (μ : QM) (K : Option QV → QM → Prop) : sp_X6_clear [.inr (.inr this)] μ K = (this = 35 ∧ ∀ ν : QM, (∀ a j : Int, ¬ a = 35 → ν a j = μ a j) → c_tl (0, 0, 0, 0) ν → K none ν) := propext Iff.rfl
theorem sp_X6_clear_i {ra : List QV} {μ : QM} {K : Option QV → QM → Prop} (h : sp_X6_clear ra μ K) : ∃ this : Int, ra = [.inr (.inr this)] ∧ (this = 35 ∧ ∀ ν : QM, (∀ a j : Int, ¬ a = 35 → ν a j = μ a j) → c_tl (0, 0, 0, 0) ν → K none ν) := by
  unfold sp_X6_clear at h
  split at h
  · exact ⟨_, rfl, h⟩
  · exact h.elim
def rm_X6_clear : Room := { frames := 0, cells := 0, slots := 0, locals := 0 }
def G_X6_clear : Nat → Nat × QP := fun i => match i with
  | _ => (0, fun _ _ _ => False)
set_option maxRecDepth 100000 in
set_option maxHeartbeats 4000000 in
theorem B_X6_clear : q_Body cX6_clear 1 u_X6_clear fl_X6 ld_X6 G_X6_clear q_T 4 s_X6_clear sp_X6_clear := by
  intro S Rt hR ra μ h
  obtain ⟨this, rfl, h⟩ := sp_X6_clear_i h
  refine ⟨by simp [q_sl, q_ct], ?_⟩
  show S 0 [some (.inr (.inr this))] [] μ
  obtain ⟨rfl, hk⟩ := h
  refine hR 40 [] 0 _ _ _ rfl ?_
  simp only [v_opt_n, v_opt_s, v_nil, v_iconst, v_bipush, v_sipush, v_lconst0, v_lconst1, v_ldc, v_ldcw, v_ldc2, v_iload0, v_iload1, v_iload2, v_iload3, v_iload, v_lload0, v_lload1, v_lload2, v_lload3, v_lload, v_aload0, v_aload1, v_aload2, v_aload3, v_aload, v_istore0, v_istore1, v_istore2, v_istore3, v_istore, v_lstore0, v_lstore1, v_lstore2, v_lstore3, v_lstore, v_astore0, v_astore1, v_astore2, v_astore3, v_astore, v_iinc, v_iadd, v_isub, v_imul, v_iand, v_ior, v_ixor, v_ishl, v_ishr, v_iushr, v_ineg, v_idiv, v_irem, v_ladd, v_lsub, v_lmul, v_lcmp, v_i2l, v_l2i, v_i2c, v_dup, v_dup2, v_if_eq, v_if_ne, v_if_lt, v_if_ge, v_if_gt, v_if_le, v_ic_eq, v_ic_ne, v_ic_lt, v_ic_ge, v_ic_gt, v_ic_le, v_goto, v_tsw, v_lsw, v_ireturn, v_areturn, v_return, v_iaload, v_laload, v_baload, v_caload, v_aaload, v_iastore, v_lastore, v_bastore, v_castore, v_alen, v_invvi, v_invst, v_invsp, e_int, e_lng, e_ref, e_lg0, e_lg1, e_lg2, e_lg3, e_lg4, e_lg5, e_lg6, e_lg7, e_lg8, e_lg9, e_lg10, e_lg11, e_lg12, e_lg13, e_clrI, e_clrJ, e_clrP, e_clrN, e_s0, e_s1, e_s2, e_s3, e_s4, e_s5, e_s6, e_s7, e_s8, e_s9, e_s10, e_s11, e_s12, e_s13, e_t0, e_t1, e_t2, e_t3, e_t4, e_t5, e_t6, e_t7, e_t8, e_t9, e_t10, e_t11, e_t12, e_t13, e_fd, e_kk, e_k0, e_k1, e_k2, e_k3, e_k4, e_k5, e_k6, e_k7, e_k8, e_k9, e_sv0, e_sv1, e_sv2, e_sv3, e_svc, e_pf0, e_pf1, e_pf2, e_pf3, e_ar, e_aa, e_al, e_sw1, e_sw2, e_ct0, e_ct1, e_ct2, e_cat0, e_cat1, e_rk0, e_rk1, e_rk2, e_inv0, e_inv1, e_inv2, e_inv3, e_inv4, e_inv5, e_inv6, e_o0, e_o1, e_cl, e_cle, e_cg, e_cge, e_ce, e_cr1, e_cr2, e_r, e_R, e_up, Int.cast_ofNat_Int, u_app, false_and, and_false, e_b0, e_b1, e_bn, e_bl, e_bu, Int.reduceLE, Int.reduceLT, Int.reduceEq, Int.reduceNeg, Int.reduceAdd, Int.reduceSub, Int.reduceMul, Nat.reduceLeDiff, Nat.reduceLT, Nat.reduceAdd, Nat.reduceEqDiff, true_and, and_true, true_or, or_true, false_or, or_false, forall_const, not_true_eq_false, not_false_eq_true, true_implies, false_implies, implies_true, and_self, zero_ne_one, one_ne_zero, eq_self, reduceIte, s_X6_clear_0, b_X6_clear_0, g_X6_9, p_X6_9, g_X6_16, p_X6_16, g_X6_21, p_X6_21, g_X6_24, p_X6_24, ld_X6_15, ld_X6_20]
  refine hk _ (fun a j n => ?_) ⟨?_, ?_, fun q => absurd rfl q, fun _ => ⟨?_, ?_⟩⟩
  · rw [u_app, if_neg (by omega), u_app, if_neg (by omega), u_app, if_neg (by omega), u_app, if_neg (by omega)]
  all_goals simp [u_app]
set_option maxRecDepth 100000 in
theorem C_X6_clear {l : Launch} {ad : Int → Nat} {D : va_G} {cy : Nat → ClassId} {Z : State → Prop} (hZ : q_Zg ad Z) : q_Ct l q_T q_N ad D cy Z yX6_clear cX6_clear 1 none rm_X6_clear sp_X6_clear := by
  obtain ⟨hf, hg, hld⟩ := q_chkS k_X6_clear
  refine q_met (rk := 4) q_wokT (by decide) rfl hf hg hld rfl (q_skS L_X6_clear o_X6_clear) ?_ ?_ ?_ ?_ B_X6_clear
  · intro i hi; exact absurd hi List.not_mem_nil
  · intro i hi; exact absurd hi List.not_mem_nil
  · intro i hi; exact absurd hi List.not_mem_nil
  · intro i hi; exact absurd hi List.not_mem_nil
theorem rv_X6_clear : q_rcv q_T yX6_clear.cls sp_X6_clear := by
  intro ra μ K h
  obtain ⟨this, rfl, h⟩ := sp_X6_clear_i h
  obtain rfl := h.1
  exact ⟨[], 35, 6, _, _, rfl, T_35, rfl, rfl⟩
theorem cm_X6_clear : Cond.code yX6_clear cX6_clear 1 none ∈ q_tb := by decide +kernel
def sp_X6_take : QP := fun ra μ K => match ra with
  | [.inl value, .inr (.inr this)] => this = 35 ∧ m_vr value ∧ ∃ (s : QT) (n : Int), m_tok n s ∧ n ≤ 1000 ∧ c_tl s μ ∧ ∀ ν : QM, (∀ a j : Int, ¬ a = 35 → ν a j = μ a j) → c_tl (m_tk value s) ν → K none ν
  | _ => False
theorem sp_X6_take_e (this value : Int) (μ : QM) (K : Option QV → QM → Prop) : sp_X6_take [.inl value, .inr (.inr this)] μ K = (this = 35 ∧ m_vr value ∧ ∃ (s : QT) (n : Int), m_tok n s ∧ n ≤ 1000 ∧ c_tl s μ ∧ ∀ ν : QM, (∀ a j : Int, ¬ a = 35 → ν a j = μ a j) → c_tl (m_tk value s) ν → K none ν) := propext Iff.rfl
theorem sp_X6_take_i {ra : List QV} {μ : QM} {K : Option QV → QM → Prop} (h : sp_X6_take ra μ K) : ∃ this value : Int, ra = [.inl value, .inr (.inr this)] ∧ (this = 35 ∧ m_vr value ∧ ∃ (s : QT) (n : Int), m_tok n s ∧ n ≤ 1000 ∧ c_tl s μ ∧ ∀ ν : QM, (∀ a j : Int, ¬ a = 35 → ν a j = μ a j) → c_tl (m_tk value s) ν → K none ν) := by
  unfold sp_X6_take at h
  split at h
  · exact ⟨_, _, rfl, h⟩
  · exact h.elim
def rm_X6_take : Room := { frames := 0, cells := 0, slots := 0, locals := 0 }
def G_X6_take : Nat → Nat × QP := fun i => match i with
  | _ => (0, fun _ _ _ => False)
set_option maxRecDepth 100000 in
set_option maxHeartbeats 4000000 in
theorem B_X6_take : q_Body cX6_take 2 u_X6_take fl_X6 ld_X6 G_X6_take q_T 4 s_X6_take sp_X6_take := by
  intro S Rt hR ra μ h
  obtain ⟨this, value, rfl, h⟩ := sp_X6_take_i h
  refine ⟨by simp [q_sl, q_ct], ?_⟩
  show S 0 [some (.inr (.inr this)), some (.inl value)] [] μ
  obtain ⟨rfl, hv, s, n, h1, h2, h3, hk⟩ := h
  obtain ⟨t1, t2, t3, t4⟩ := h3
  obtain ⟨o1, o2, o3, o4, o5, o6⟩ := h1
  have g : ¬ value = -2000000000 → ∀ ν : QM, (∀ a j : Int, ¬ a = 35 → ν a j = μ a j) → ν 35 3 = s.1 + 1 → ν 35 0 = s.2.1 + value → (ν 35 1 = if value ≤ μ 35 1 then μ 35 1 else value) → (ν 35 2 = if μ 35 2 ≤ value then μ 35 2 else value) → Rt none ν := fun c ν f e3 e0 e1 e2 => by
    refine hk ν f ?_
    unfold m_tk
    rw [if_neg c]
    refine ⟨e3, e0, fun _ => ⟨?_, ?_⟩, fun q => ?_⟩
    · show ν 35 2 = if s.1 = 0 ∨ value < s.2.2.1 then value else s.2.2.1
      rw [e2]
      split <;> split <;> omega
    · show ν 35 1 = if s.1 = 0 ∨ s.2.2.2 < value then value else s.2.2.2
      rw [e1]
      split <;> split <;> omega
    · have q : s.1 + 1 = 0 := q
      omega
  refine hR 60 [] 0 _ _ _ rfl ?_
  simp only [v_opt_n, v_opt_s, v_nil, v_iconst, v_bipush, v_sipush, v_lconst0, v_lconst1, v_ldc, v_ldcw, v_ldc2, v_iload0, v_iload1, v_iload2, v_iload3, v_iload, v_lload0, v_lload1, v_lload2, v_lload3, v_lload, v_aload0, v_aload1, v_aload2, v_aload3, v_aload, v_istore0, v_istore1, v_istore2, v_istore3, v_istore, v_lstore0, v_lstore1, v_lstore2, v_lstore3, v_lstore, v_astore0, v_astore1, v_astore2, v_astore3, v_astore, v_iinc, v_iadd, v_isub, v_imul, v_iand, v_ior, v_ixor, v_ishl, v_ishr, v_iushr, v_ineg, v_idiv, v_irem, v_ladd, v_lsub, v_lmul, v_lcmp, v_i2l, v_l2i, v_i2c, v_dup, v_dup2, v_if_eq, v_if_ne, v_if_lt, v_if_ge, v_if_gt, v_if_le, v_ic_eq, v_ic_ne, v_ic_lt, v_ic_ge, v_ic_gt, v_ic_le, v_goto, v_tsw, v_lsw, v_ireturn, v_areturn, v_return, v_iaload, v_laload, v_baload, v_caload, v_aaload, v_iastore, v_lastore, v_bastore, v_castore, v_alen, v_invvi, v_invst, v_invsp, e_int, e_lng, e_ref, e_lg0, e_lg1, e_lg2, e_lg3, e_lg4, e_lg5, e_lg6, e_lg7, e_lg8, e_lg9, e_lg10, e_lg11, e_lg12, e_lg13, e_clrI, e_clrJ, e_clrP, e_clrN, e_s0, e_s1, e_s2, e_s3, e_s4, e_s5, e_s6, e_s7, e_s8, e_s9, e_s10, e_s11, e_s12, e_s13, e_t0, e_t1, e_t2, e_t3, e_t4, e_t5, e_t6, e_t7, e_t8, e_t9, e_t10, e_t11, e_t12, e_t13, e_fd, e_kk, e_k0, e_k1, e_k2, e_k3, e_k4, e_k5, e_k6, e_k7, e_k8, e_k9, e_sv0, e_sv1, e_sv2, e_sv3, e_svc, e_pf0, e_pf1, e_pf2, e_pf3, e_ar, e_aa, e_al, e_sw1, e_sw2, e_ct0, e_ct1, e_ct2, e_cat0, e_cat1, e_rk0, e_rk1, e_rk2, e_inv0, e_inv1, e_inv2, e_inv3, e_inv4, e_inv5, e_inv6, e_o0, e_o1, e_cl, e_cle, e_cg, e_cge, e_ce, e_cr1, e_cr2, e_r, e_R, e_up, Int.cast_ofNat_Int, u_app, false_and, and_false, e_b0, e_b1, e_bn, e_bl, e_bu, Int.reduceLE, Int.reduceLT, Int.reduceEq, Int.reduceNeg, Int.reduceAdd, Int.reduceSub, Int.reduceMul, Nat.reduceLeDiff, Nat.reduceLT, Nat.reduceAdd, Nat.reduceEqDiff, true_and, and_true, true_or, or_true, false_or, or_false, forall_const, not_true_eq_false, not_false_eq_true, true_implies, false_implies, implies_true, and_self, zero_ne_one, one_ne_zero, eq_self, reduceIte, s_X6_take_0, b_X6_take_0, s_X6_take_6, b_X6_take_6, s_X6_take_7, b_X6_take_7, s_X6_take_26, b_X6_take_26, s_X6_take_31, b_X6_take_31, s_X6_take_39, b_X6_take_39, s_X6_take_44, b_X6_take_44, g_X6_9, p_X6_9, g_X6_16, p_X6_16, g_X6_21, p_X6_21, g_X6_24, p_X6_24, ld_X6_27, t1, t2]
  refine ⟨by omega, fun c => ⟨by omega, by omega, fun c1 => ⟨by omega, fun c2 => ?_, fun c2 => ?_⟩, fun c1 => ⟨by omega, fun c2 => ?_, fun c2 => ?_⟩⟩, fun c => ?_⟩
  · refine g c _ (fun a j n => by simp only [u_app, n, false_and, if_false]) ?_ ?_ ?_ ?_ <;> simp [u_app, c1, c2]
  · refine g c _ (fun a j n => by simp only [u_app, n, false_and, if_false]) ?_ ?_ ?_ ?_ <;> simp [u_app, c1, c2]
  · refine g c _ (fun a j n => by simp only [u_app, n, false_and, if_false]) ?_ ?_ ?_ ?_ <;> simp [u_app, c1, c2]
  · refine g c _ (fun a j n => by simp only [u_app, n, false_and, if_false]) ?_ ?_ ?_ ?_ <;> simp [u_app, c1, c2]
  · refine hk μ (fun _ _ _ => rfl) ?_
    unfold m_tk
    rw [if_pos c]
    exact ⟨t1, t2, t3, t4⟩
set_option maxRecDepth 100000 in
theorem C_X6_take {l : Launch} {ad : Int → Nat} {D : va_G} {cy : Nat → ClassId} {Z : State → Prop} (hZ : q_Zg ad Z) : q_Ct l q_T q_N ad D cy Z yX6_take cX6_take 2 none rm_X6_take sp_X6_take := by
  obtain ⟨hf, hg, hld⟩ := q_chkS k_X6_take
  refine q_met (rk := 4) q_wokT (by decide) rfl hf hg hld rfl (q_skS L_X6_take o_X6_take) ?_ ?_ ?_ ?_ B_X6_take
  · intro i hi; exact absurd hi List.not_mem_nil
  · intro i hi; exact absurd hi List.not_mem_nil
  · intro i hi; exact absurd hi List.not_mem_nil
  · intro i hi; exact absurd hi List.not_mem_nil
theorem rv_X6_take : q_rcv q_T yX6_take.cls sp_X6_take := by
  intro ra μ K h
  obtain ⟨this, value, rfl, h⟩ := sp_X6_take_i h
  obtain rfl := h.1
  exact ⟨[.inl value], 35, 6, _, _, rfl, T_35, rfl, rfl⟩
theorem cm_X6_take : Cond.code yX6_take cX6_take 2 none ∈ q_tb := by decide +kernel
def sp_X6_answer : QP := fun ra μ K => match ra with
  | [.inl how, .inr (.inr this)] => this = 35 ∧ (how = 4 ∨ how = 5 ∨ how = 13 ∨ how = 14) ∧ ∃ (s : QT) (n : Int), m_tok n s ∧ n ≤ 1000 ∧ c_tl s μ ∧ K (some (.inl (m_ans how s))) μ
  | _ => False
theorem sp_X6_answer_e (this how : Int) (μ : QM) (K : Option QV → QM → Prop) : sp_X6_answer [.inl how, .inr (.inr this)] μ K = (this = 35 ∧ (how = 4 ∨ how = 5 ∨ how = 13 ∨ how = 14) ∧ ∃ (s : QT) (n : Int), m_tok n s ∧ n ≤ 1000 ∧ c_tl s μ ∧ K (some (.inl (m_ans how s))) μ) := propext Iff.rfl
theorem sp_X6_answer_i {ra : List QV} {μ : QM} {K : Option QV → QM → Prop} (h : sp_X6_answer ra μ K) : ∃ this how : Int, ra = [.inl how, .inr (.inr this)] ∧ (this = 35 ∧ (how = 4 ∨ how = 5 ∨ how = 13 ∨ how = 14) ∧ ∃ (s : QT) (n : Int), m_tok n s ∧ n ≤ 1000 ∧ c_tl s μ ∧ K (some (.inl (m_ans how s))) μ) := by
  unfold sp_X6_answer at h
  split at h
  · exact ⟨_, _, rfl, h⟩
  · exact h.elim
def rm_X6_answer : Room := { frames := 1, cells := 0, slots := 0, locals := 21 }
def G_X6_answer : Nat → Nat × QP := fun i => match i with
  | 28 => (1, sp_X10_orGap)
  | _ => (0, fun _ _ _ => False)
theorem G_X6_answer_28 : G_X6_answer 28 = (1, sp_X10_orGap) := id rfl
set_option maxRecDepth 100000 in
set_option maxHeartbeats 4000000 in
theorem B_X6_answer : q_Body cX6_answer 2 u_X6_answer fl_X6 ld_X6 G_X6_answer q_T 0 s_X6_answer sp_X6_answer := by
  intro S Rt hR ra μ h
  obtain ⟨this, how, rfl, h⟩ := sp_X6_answer_i h
  refine ⟨by simp [q_sl, q_ct], ?_⟩
  show S 0 [some (.inr (.inr this)), some (.inl how)] [] μ
  obtain ⟨rfl, hw, s, n, h1, h2, h3, hk⟩ := h
  obtain ⟨t1, t2, t3, t4⟩ := h3
  obtain ⟨o1, o2, o3, o4, o5, o6⟩ := h1
  unfold m_ans q_taken at hk
  refine hR 60 [] 0 _ _ _ rfl ?_
  simp only [v_opt_n, v_opt_s, v_nil, v_iconst, v_bipush, v_sipush, v_lconst0, v_lconst1, v_ldc, v_ldcw, v_ldc2, v_iload0, v_iload1, v_iload2, v_iload3, v_iload, v_lload0, v_lload1, v_lload2, v_lload3, v_lload, v_aload0, v_aload1, v_aload2, v_aload3, v_aload, v_istore0, v_istore1, v_istore2, v_istore3, v_istore, v_lstore0, v_lstore1, v_lstore2, v_lstore3, v_lstore, v_astore0, v_astore1, v_astore2, v_astore3, v_astore, v_iinc, v_iadd, v_isub, v_imul, v_iand, v_ior, v_ixor, v_ishl, v_ishr, v_iushr, v_ineg, v_idiv, v_irem, v_ladd, v_lsub, v_lmul, v_lcmp, v_i2l, v_l2i, v_i2c, v_dup, v_dup2, v_if_eq, v_if_ne, v_if_lt, v_if_ge, v_if_gt, v_if_le, v_ic_eq, v_ic_ne, v_ic_lt, v_ic_ge, v_ic_gt, v_ic_le, v_goto, v_tsw, v_lsw, v_ireturn, v_areturn, v_return, v_iaload, v_laload, v_baload, v_caload, v_aaload, v_iastore, v_lastore, v_bastore, v_castore, v_alen, v_invvi, v_invst, v_invsp, e_int, e_lng, e_ref, e_lg0, e_lg1, e_lg2, e_lg3, e_lg4, e_lg5, e_lg6, e_lg7, e_lg8, e_lg9, e_lg10, e_lg11, e_lg12, e_lg13, e_clrI, e_clrJ, e_clrP, e_clrN, e_s0, e_s1, e_s2, e_s3, e_s4, e_s5, e_s6, e_s7, e_s8, e_s9, e_s10, e_s11, e_s12, e_s13, e_t0, e_t1, e_t2, e_t3, e_t4, e_t5, e_t6, e_t7, e_t8, e_t9, e_t10, e_t11, e_t12, e_t13, e_fd, e_kk, e_k0, e_k1, e_k2, e_k3, e_k4, e_k5, e_k6, e_k7, e_k8, e_k9, e_sv0, e_sv1, e_sv2, e_sv3, e_svc, e_pf0, e_pf1, e_pf2, e_pf3, e_ar, e_aa, e_al, e_sw1, e_sw2, e_ct0, e_ct1, e_ct2, e_cat0, e_cat1, e_rk0, e_rk1, e_rk2, e_inv0, e_inv1, e_inv2, e_inv3, e_inv4, e_inv5, e_inv6, e_o0, e_o1, e_cl, e_cle, e_cg, e_cge, e_ce, e_cr1, e_cr2, e_r, e_R, e_up, Int.cast_ofNat_Int, u_app, false_and, and_false, e_b0, e_b1, e_bn, e_bl, e_bu, Int.reduceLE, Int.reduceLT, Int.reduceEq, Int.reduceNeg, Int.reduceAdd, Int.reduceSub, Int.reduceMul, Nat.reduceLeDiff, Nat.reduceLT, Nat.reduceAdd, Nat.reduceEqDiff, true_and, and_true, true_or, or_true, false_or, or_false, forall_const, not_true_eq_false, not_false_eq_true, true_implies, false_implies, implies_true, and_self, zero_ne_one, one_ne_zero, eq_self, reduceIte, s_X6_answer_0, b_X6_answer_0, s_X6_answer_6, b_X6_answer_6, s_X6_answer_11, b_X6_answer_11, s_X6_answer_18, b_X6_answer_18, s_X6_answer_21, b_X6_answer_21, s_X6_answer_48, b_X6_answer_48, s_X6_answer_53, b_X6_answer_53, s_X6_answer_58, b_X6_answer_58, g_X6_24, g_X6_16, g_X6_21, g_X6_9, ld_X6_27, G_X6_answer_28, sp_X10_orGap_e, t1, t2]
  refine ⟨by omega, fun c => ⟨by omega, fun c1 => ?_, fun c1 => ?_⟩, fun c => ?_⟩
  · rw [if_neg c, if_neg c1] at hk
    obtain ⟨t5, t6⟩ := t3 c1
    have kk : ∀ v : Int, -1000000000 ≤ v ∧ v ≤ 1000000000 → q_kept v = v := fun v hv => if_pos hv
    refine ⟨by omega, fun c2 => ?_, fun c2 => ⟨fun c3 => ?_, fun c3 => ⟨by omega, ?_⟩⟩⟩
    · rw [if_neg (by omega), if_pos c2, kk _ o5, ← t5] at hk
      exact hk
    · rw [if_neg (by omega), if_neg c2, kk _ o6, ← t6] at hk
      exact hk
    · rw [if_pos (by omega)] at hk
      exact hk
  · rw [if_neg c, if_pos c1] at hk
    exact hk
  · rw [if_pos c] at hk
    exact hk
set_option maxRecDepth 100000 in
theorem C_X6_answer {l : Launch} {ad : Int → Nat} {D : va_G} {cy : Nat → ClassId} {Z : State → Prop} (hZ : q_Zg ad Z) : q_Ct l q_T q_N ad D cy Z yX6_answer cX6_answer 2 (some .int) rm_X6_answer sp_X6_answer := by
  obtain ⟨hf, hg, hld⟩ := q_chkS k_X6_answer
  refine q_met (rk := 0) q_wokT (by decide) rfl hf hg hld rfl (q_skS L_X6_answer o_X6_answer) ?_ ?_ ?_ ?_ B_X6_answer
  · intro i hi; exact absurd hi List.not_mem_nil
  · intro i hi; exact absurd hi List.not_mem_nil
  · intro i hi
    have hi : i = 28 := by simpa [u_X6_answer] using hi
    rcases hi with rfl
    · exact q_crSN hZ.1 (C_X10_orGap hZ) cm_X10_orGap (fun s h => hZ.2 s h (RX6, 28, yX10_orGap, "BoardSums") (List.mem_of_getElem? (i := 1) rfl)) (by decide +kernel) (by decide +kernel) (by decide +kernel) ⟨rfl, rfl⟩ (by decide)
  · intro i hi; exact absurd hi List.not_mem_nil
theorem rv_X6_answer : q_rcv q_T yX6_answer.cls sp_X6_answer := by
  intro ra μ K h
  obtain ⟨this, how, rfl, h⟩ := sp_X6_answer_i h
  obtain rfl := h.1
  exact ⟨[.inl how], 35, 6, _, _, rfl, T_35, rfl, rfl⟩
theorem cm_X6_answer : Cond.code yX6_answer cX6_answer 2 (some .int) ∈ q_tb := by decide +kernel
/-! plans and recipes -/
def sp_X2_clear : QP := fun ra μ K => match ra with
  | [.inr (.inr this)] => q_pl this ∧ K none (q_fill (q_up μ this 2 0) (this + 2) 0 26 (-1))
  | _ => False
theorem sp_X2_clear_e (this : Int) (μ : QM) (K : Option QV → QM → Prop) : sp_X2_clear [.inr (.inr this)] μ K = (q_pl this ∧ K none (q_fill (q_up μ this 2 0) (this + 2) 0 26 (-1))) := propext Iff.rfl
theorem sp_X2_clear_i {ra : List QV} {μ : QM} {K : Option QV → QM → Prop} (h : sp_X2_clear ra μ K) : ∃ this : Int, ra = [.inr (.inr this)] ∧ (q_pl this ∧ K none (q_fill (q_up μ this 2 0) (this + 2) 0 26 (-1))) := by
  unfold sp_X2_clear at h
  split at h
  · exact ⟨_, rfl, h⟩
  · exact h.elim
def rm_X2_clear : Room := { frames := 1, cells := 0, slots := 0, locals := 23 }
def G_X2_clear : Nat → Nat × QP := fun i => match i with
  | 29 => (2, sp_J7_fill_53178)
  | _ => (0, fun _ _ _ => False)
theorem G_X2_clear_29 : G_X2_clear 29 = (2, sp_J7_fill_53178) := id rfl
set_option maxRecDepth 100000 in
set_option maxHeartbeats 4000000 in
theorem B_X2_clear : q_Body cX2_clear 1 u_X2_clear fl_X2 ld_X2 G_X2_clear q_T 4 s_X2_clear sp_X2_clear := by
  intro S Rt hR ra μ h
  obtain ⟨this, rfl, h⟩ := sp_X2_clear_i h
  refine ⟨by simp [q_sl, q_ct], ?_⟩
  show S 0 [some (.inr (.inr this))] [] μ
  obtain ⟨h1, hk⟩ := h
  have hT := T_plan h1
  have h0 : 0 ≤ this := by omega
  refine hR 40 [] 0 _ _ _ rfl ?_
  simp only [v_opt_n, v_opt_s, v_nil, v_iconst, v_bipush, v_sipush, v_lconst0, v_lconst1, v_ldc, v_ldcw, v_ldc2, v_iload0, v_iload1, v_iload2, v_iload3, v_iload, v_lload0, v_lload1, v_lload2, v_lload3, v_lload, v_aload0, v_aload1, v_aload2, v_aload3, v_aload, v_istore0, v_istore1, v_istore2, v_istore3, v_istore, v_lstore0, v_lstore1, v_lstore2, v_lstore3, v_lstore, v_astore0, v_astore1, v_astore2, v_astore3, v_astore, v_iinc, v_iadd, v_isub, v_imul, v_iand, v_ior, v_ixor, v_ishl, v_ishr, v_iushr, v_ineg, v_idiv, v_irem, v_ladd, v_lsub, v_lmul, v_lcmp, v_i2l, v_l2i, v_i2c, v_dup, v_dup2, v_if_eq, v_if_ne, v_if_lt, v_if_ge, v_if_gt, v_if_le, v_ic_eq, v_ic_ne, v_ic_lt, v_ic_ge, v_ic_gt, v_ic_le, v_goto, v_tsw, v_lsw, v_ireturn, v_areturn, v_return, v_iaload, v_laload, v_baload, v_caload, v_aaload, v_iastore, v_lastore, v_bastore, v_castore, v_alen, v_invvi, v_invst, v_invsp, e_int, e_lng, e_ref, e_lg0, e_lg1, e_lg2, e_lg3, e_lg4, e_lg5, e_lg6, e_lg7, e_lg8, e_lg9, e_lg10, e_lg11, e_lg12, e_lg13, e_clrI, e_clrJ, e_clrP, e_clrN, e_s0, e_s1, e_s2, e_s3, e_s4, e_s5, e_s6, e_s7, e_s8, e_s9, e_s10, e_s11, e_s12, e_s13, e_t0, e_t1, e_t2, e_t3, e_t4, e_t5, e_t6, e_t7, e_t8, e_t9, e_t10, e_t11, e_t12, e_t13, e_fd, e_kk, e_k0, e_k1, e_k2, e_k3, e_k4, e_k5, e_k6, e_k7, e_k8, e_k9, e_sv0, e_sv1, e_sv2, e_sv3, e_svc, e_pf0, e_pf1, e_pf2, e_pf3, e_ar, e_aa, e_al, e_sw1, e_sw2, e_ct0, e_ct1, e_ct2, e_cat0, e_cat1, e_rk0, e_rk1, e_rk2, e_inv0, e_inv1, e_inv2, e_inv3, e_inv4, e_inv5, e_inv6, e_o0, e_o1, e_cl, e_cle, e_cg, e_cge, e_ce, e_cr1, e_cr2, e_r, e_R, e_up, Int.cast_ofNat_Int, u_app, false_and, and_false, e_b0, e_b1, e_bn, e_bl, e_bu, Int.reduceLE, Int.reduceLT, Int.reduceEq, Int.reduceNeg, Int.reduceAdd, Int.reduceSub, Int.reduceMul, Nat.reduceLeDiff, Nat.reduceLT, Nat.reduceAdd, Nat.reduceEqDiff, true_and, and_true, true_or, or_true, false_or, or_false, forall_const, not_true_eq_false, not_false_eq_true, true_implies, false_implies, implies_true, and_self, zero_ne_one, one_ne_zero, eq_self, reduceIte, v_getf, v_putf, s_X2_clear_0, b_X2_clear_0, fl_X2_25, fl_X2_17, G_X2_clear_29, sp_J7_fill_53178_e, hT]
  exact ⟨h0, h0, 26, T_bof h1, by omega, hk⟩
set_option maxRecDepth 100000 in
theorem C_X2_clear {l : Launch} {ad : Int → Nat} {D : va_G} {cy : Nat → ClassId} {Z : State → Prop} (hZ : q_Zg ad Z) : q_Ct l q_T q_N ad D cy Z yX2_clear cX2_clear 1 none rm_X2_clear sp_X2_clear := by
  obtain ⟨hf, hg, hld⟩ := q_chkS k_X2_clear
  refine q_met (rk := 4) q_wokT (by decide) rfl hf hg hld rfl (q_skS L_X2_clear o_X2_clear) ?_ ?_ ?_ ?_ B_X2_clear
  · intro i hi; exact absurd hi List.not_mem_nil
  · intro i hi; exact absurd hi List.not_mem_nil
  · intro i hi
    have hi : i = 29 := by simpa [u_X2_clear] using hi
    rcases hi with rfl
    · exact q_crS hZ.1 (C_J7_fill_53178 hZ) cm_J7_fill_53178 (by decide +kernel) (by decide +kernel) (by decide +kernel) (by decide +kernel) ⟨rfl, rfl⟩ (by decide)
  · intro i hi; exact absurd hi List.not_mem_nil
theorem rv_X2_clear : q_rcv q_T yX2_clear.cls sp_X2_clear := by
  intro ra μ K h
  obtain ⟨this, rfl, h⟩ := sp_X2_clear_i h
  rcases h.1 with rfl | rfl
  · exact ⟨[], 39, 2, _, _, rfl, T_39, rfl, rfl⟩
  · exact ⟨[], 62, 2, _, _, rfl, T_62, rfl, rfl⟩
theorem cm_X2_clear : Cond.code yX2_clear cX2_clear 1 none ∈ q_tb := by decide +kernel
def sp_X2_has : QP := fun ra μ K => match ra with
  | [.inl board, .inr (.inr this)] => q_pl this ∧ (q_r board ∧ q_r (μ this 2)) ∧ K (some (.inl (q_b (0 ≤ board ∧ board < μ this 2)))) μ
  | _ => False
theorem sp_X2_has_e (this board : Int) (μ : QM) (K : Option QV → QM → Prop) : sp_X2_has [.inl board, .inr (.inr this)] μ K = (q_pl this ∧ (q_r board ∧ q_r (μ this 2)) ∧ K (some (.inl (q_b (0 ≤ board ∧ board < μ this 2)))) μ) := propext Iff.rfl
theorem sp_X2_has_i {ra : List QV} {μ : QM} {K : Option QV → QM → Prop} (h : sp_X2_has ra μ K) : ∃ this board : Int, ra = [.inl board, .inr (.inr this)] ∧ (q_pl this ∧ (q_r board ∧ q_r (μ this 2)) ∧ K (some (.inl (q_b (0 ≤ board ∧ board < μ this 2)))) μ) := by
  unfold sp_X2_has at h
  split at h
  · exact ⟨_, _, rfl, h⟩
  · exact h.elim
def rm_X2_has : Room := { frames := 0, cells := 0, slots := 0, locals := 0 }
def G_X2_has : Nat → Nat × QP := fun i => match i with
  | _ => (0, fun _ _ _ => False)
set_option maxRecDepth 100000 in
set_option maxHeartbeats 4000000 in
theorem B_X2_has : q_Body cX2_has 2 u_X2_has fl_X2 ld_X2 G_X2_has q_T 1 s_X2_has sp_X2_has := by
  intro S Rt hR ra μ h
  obtain ⟨this, board, rfl, h⟩ := sp_X2_has_i h
  refine ⟨by simp [q_sl, q_ct], ?_⟩
  show S 0 [some (.inr (.inr this)), some (.inl board)] [] μ
  obtain ⟨h1, h2, hk⟩ := h
  have hT := T_plan h1
  have h0 : 0 ≤ this := by omega
  unfold q_b at hk
  refine hR 40 [] 0 _ _ _ rfl ?_
  simp only [v_opt_n, v_opt_s, v_nil, v_iconst, v_bipush, v_sipush, v_lconst0, v_lconst1, v_ldc, v_ldcw, v_ldc2, v_iload0, v_iload1, v_iload2, v_iload3, v_iload, v_lload0, v_lload1, v_lload2, v_lload3, v_lload, v_aload0, v_aload1, v_aload2, v_aload3, v_aload, v_istore0, v_istore1, v_istore2, v_istore3, v_istore, v_lstore0, v_lstore1, v_lstore2, v_lstore3, v_lstore, v_astore0, v_astore1, v_astore2, v_astore3, v_astore, v_iinc, v_iadd, v_isub, v_imul, v_iand, v_ior, v_ixor, v_ishl, v_ishr, v_iushr, v_ineg, v_idiv, v_irem, v_ladd, v_lsub, v_lmul, v_lcmp, v_i2l, v_l2i, v_i2c, v_dup, v_dup2, v_if_eq, v_if_ne, v_if_lt, v_if_ge, v_if_gt, v_if_le, v_ic_eq, v_ic_ne, v_ic_lt, v_ic_ge, v_ic_gt, v_ic_le, v_goto, v_tsw, v_lsw, v_ireturn, v_areturn, v_return, v_iaload, v_laload, v_baload, v_caload, v_aaload, v_iastore, v_lastore, v_bastore, v_castore, v_alen, v_invvi, v_invst, v_invsp, e_int, e_lng, e_ref, e_lg0, e_lg1, e_lg2, e_lg3, e_lg4, e_lg5, e_lg6, e_lg7, e_lg8, e_lg9, e_lg10, e_lg11, e_lg12, e_lg13, e_clrI, e_clrJ, e_clrP, e_clrN, e_s0, e_s1, e_s2, e_s3, e_s4, e_s5, e_s6, e_s7, e_s8, e_s9, e_s10, e_s11, e_s12, e_s13, e_t0, e_t1, e_t2, e_t3, e_t4, e_t5, e_t6, e_t7, e_t8, e_t9, e_t10, e_t11, e_t12, e_t13, e_fd, e_kk, e_k0, e_k1, e_k2, e_k3, e_k4, e_k5, e_k6, e_k7, e_k8, e_k9, e_sv0, e_sv1, e_sv2, e_sv3, e_svc, e_pf0, e_pf1, e_pf2, e_pf3, e_ar, e_aa, e_al, e_sw1, e_sw2, e_ct0, e_ct1, e_ct2, e_cat0, e_cat1, e_rk0, e_rk1, e_rk2, e_inv0, e_inv1, e_inv2, e_inv3, e_inv4, e_inv5, e_inv6, e_o0, e_o1, e_cl, e_cle, e_cg, e_cge, e_ce, e_cr1, e_cr2, e_r, e_R, e_up, Int.cast_ofNat_Int, u_app, false_and, and_false, e_b0, e_b1, e_bn, e_bl, e_bu, Int.reduceLE, Int.reduceLT, Int.reduceEq, Int.reduceNeg, Int.reduceAdd, Int.reduceSub, Int.reduceMul, Nat.reduceLeDiff, Nat.reduceLT, Nat.reduceAdd, Nat.reduceEqDiff, true_and, and_true, true_or, or_true, false_or, or_false, forall_const, not_true_eq_false, not_false_eq_true, true_implies, false_implies, implies_true, and_self, zero_ne_one, one_ne_zero, eq_self, reduceIte, v_getf, v_putf, s_X2_has_0, b_X2_has_0, s_X2_has_4, b_X2_has_4, s_X2_has_12, b_X2_has_12, s_X2_has_16, b_X2_has_16, s_X2_has_17, b_X2_has_17, fl_X2_25, hT]
  split at hk <;> (repeat' (first | assumption | (refine And.intro ?_ ?_) | (intro _))) <;> first | omega | (exfalso; omega)
set_option maxRecDepth 100000 in
theorem C_X2_has {l : Launch} {ad : Int → Nat} {D : va_G} {cy : Nat → ClassId} {Z : State → Prop} (hZ : q_Zg ad Z) : q_Ct l q_T q_N ad D cy Z yX2_has cX2_has 2 (some .boolean) rm_X2_has sp_X2_has := by
  obtain ⟨hf, hg, hld⟩ := q_chkS k_X2_has
  refine q_met (rk := 1) q_wokT (by decide) rfl hf hg hld rfl (q_skS L_X2_has o_X2_has) ?_ ?_ ?_ ?_ B_X2_has
  · intro i hi; exact absurd hi List.not_mem_nil
  · intro i hi; exact absurd hi List.not_mem_nil
  · intro i hi; exact absurd hi List.not_mem_nil
  · intro i hi; exact absurd hi List.not_mem_nil
theorem rv_X2_has : q_rcv q_T yX2_has.cls sp_X2_has := by
  intro ra μ K h
  obtain ⟨this, board, rfl, h⟩ := sp_X2_has_i h
  rcases h.1 with rfl | rfl
  · exact ⟨[.inl board], 39, 2, _, _, rfl, T_39, rfl, rfl⟩
  · exact ⟨[.inl board], 62, 2, _, _, rfl, T_62, rfl, rfl⟩
theorem cm_X2_has : Cond.code yX2_has cX2_has 2 (some .boolean) ∈ q_tb := by decide +kernel
def sp_X2_isFull : QP := fun ra μ K => match ra with
  | [.inr (.inr this)] => q_pl this ∧ q_r (μ this 2) ∧ K (some (.inl (q_b (10 ≤ μ this 2)))) μ
  | _ => False
theorem sp_X2_isFull_e (this : Int) (μ : QM) (K : Option QV → QM → Prop) : sp_X2_isFull [.inr (.inr this)] μ K = (q_pl this ∧ q_r (μ this 2) ∧ K (some (.inl (q_b (10 ≤ μ this 2)))) μ) := propext Iff.rfl
theorem sp_X2_isFull_i {ra : List QV} {μ : QM} {K : Option QV → QM → Prop} (h : sp_X2_isFull ra μ K) : ∃ this : Int, ra = [.inr (.inr this)] ∧ (q_pl this ∧ q_r (μ this 2) ∧ K (some (.inl (q_b (10 ≤ μ this 2)))) μ) := by
  unfold sp_X2_isFull at h
  split at h
  · exact ⟨_, rfl, h⟩
  · exact h.elim
def rm_X2_isFull : Room := { frames := 0, cells := 0, slots := 0, locals := 0 }
def G_X2_isFull : Nat → Nat × QP := fun i => match i with
  | _ => (0, fun _ _ _ => False)
set_option maxRecDepth 100000 in
set_option maxHeartbeats 4000000 in
theorem B_X2_isFull : q_Body cX2_isFull 1 u_X2_isFull fl_X2 ld_X2 G_X2_isFull q_T 1 s_X2_isFull sp_X2_isFull := by
  intro S Rt hR ra μ h
  obtain ⟨this, rfl, h⟩ := sp_X2_isFull_i h
  refine ⟨by simp [q_sl, q_ct], ?_⟩
  show S 0 [some (.inr (.inr this))] [] μ
  obtain ⟨h1, h2, hk⟩ := h
  have hT := T_plan h1
  have h0 : 0 ≤ this := by omega
  unfold q_b at hk
  refine hR 40 [] 0 _ _ _ rfl ?_
  simp only [v_opt_n, v_opt_s, v_nil, v_iconst, v_bipush, v_sipush, v_lconst0, v_lconst1, v_ldc, v_ldcw, v_ldc2, v_iload0, v_iload1, v_iload2, v_iload3, v_iload, v_lload0, v_lload1, v_lload2, v_lload3, v_lload, v_aload0, v_aload1, v_aload2, v_aload3, v_aload, v_istore0, v_istore1, v_istore2, v_istore3, v_istore, v_lstore0, v_lstore1, v_lstore2, v_lstore3, v_lstore, v_astore0, v_astore1, v_astore2, v_astore3, v_astore, v_iinc, v_iadd, v_isub, v_imul, v_iand, v_ior, v_ixor, v_ishl, v_ishr, v_iushr, v_ineg, v_idiv, v_irem, v_ladd, v_lsub, v_lmul, v_lcmp, v_i2l, v_l2i, v_i2c, v_dup, v_dup2, v_if_eq, v_if_ne, v_if_lt, v_if_ge, v_if_gt, v_if_le, v_ic_eq, v_ic_ne, v_ic_lt, v_ic_ge, v_ic_gt, v_ic_le, v_goto, v_tsw, v_lsw, v_ireturn, v_areturn, v_return, v_iaload, v_laload, v_baload, v_caload, v_aaload, v_iastore, v_lastore, v_bastore, v_castore, v_alen, v_invvi, v_invst, v_invsp, e_int, e_lng, e_ref, e_lg0, e_lg1, e_lg2, e_lg3, e_lg4, e_lg5, e_lg6, e_lg7, e_lg8, e_lg9, e_lg10, e_lg11, e_lg12, e_lg13, e_clrI, e_clrJ, e_clrP, e_clrN, e_s0, e_s1, e_s2, e_s3, e_s4, e_s5, e_s6, e_s7, e_s8, e_s9, e_s10, e_s11, e_s12, e_s13, e_t0, e_t1, e_t2, e_t3, e_t4, e_t5, e_t6, e_t7, e_t8, e_t9, e_t10, e_t11, e_t12, e_t13, e_fd, e_kk, e_k0, e_k1, e_k2, e_k3, e_k4, e_k5, e_k6, e_k7, e_k8, e_k9, e_sv0, e_sv1, e_sv2, e_sv3, e_svc, e_pf0, e_pf1, e_pf2, e_pf3, e_ar, e_aa, e_al, e_sw1, e_sw2, e_ct0, e_ct1, e_ct2, e_cat0, e_cat1, e_rk0, e_rk1, e_rk2, e_inv0, e_inv1, e_inv2, e_inv3, e_inv4, e_inv5, e_inv6, e_o0, e_o1, e_cl, e_cle, e_cg, e_cge, e_ce, e_cr1, e_cr2, e_r, e_R, e_up, Int.cast_ofNat_Int, u_app, false_and, and_false, e_b0, e_b1, e_bn, e_bl, e_bu, Int.reduceLE, Int.reduceLT, Int.reduceEq, Int.reduceNeg, Int.reduceAdd, Int.reduceSub, Int.reduceMul, Nat.reduceLeDiff, Nat.reduceLT, Nat.reduceAdd, Nat.reduceEqDiff, true_and, and_true, true_or, or_true, false_or, or_false, forall_const, not_true_eq_false, not_false_eq_true, true_implies, false_implies, implies_true, and_self, zero_ne_one, one_ne_zero, eq_self, reduceIte, v_getf, v_putf, s_X2_isFull_0, b_X2_isFull_0, s_X2_isFull_9, b_X2_isFull_9, s_X2_isFull_13, b_X2_isFull_13, s_X2_isFull_14, b_X2_isFull_14, fl_X2_25, hT]
  split at hk <;> (repeat' (first | assumption | (refine And.intro ?_ ?_) | (intro _))) <;> first | omega | (exfalso; omega)
set_option maxRecDepth 100000 in
theorem C_X2_isFull {l : Launch} {ad : Int → Nat} {D : va_G} {cy : Nat → ClassId} {Z : State → Prop} (hZ : q_Zg ad Z) : q_Ct l q_T q_N ad D cy Z yX2_isFull cX2_isFull 1 (some .boolean) rm_X2_isFull sp_X2_isFull := by
  obtain ⟨hf, hg, hld⟩ := q_chkS k_X2_isFull
  refine q_met (rk := 1) q_wokT (by decide) rfl hf hg hld rfl (q_skS L_X2_isFull o_X2_isFull) ?_ ?_ ?_ ?_ B_X2_isFull
  · intro i hi; exact absurd hi List.not_mem_nil
  · intro i hi; exact absurd hi List.not_mem_nil
  · intro i hi; exact absurd hi List.not_mem_nil
  · intro i hi; exact absurd hi List.not_mem_nil
theorem rv_X2_isFull : q_rcv q_T yX2_isFull.cls sp_X2_isFull := by
  intro ra μ K h
  obtain ⟨this, rfl, h⟩ := sp_X2_isFull_i h
  rcases h.1 with rfl | rfl
  · exact ⟨[], 39, 2, _, _, rfl, T_39, rfl, rfl⟩
  · exact ⟨[], 62, 2, _, _, rfl, T_62, rfl, rfl⟩
theorem cm_X2_isFull : Cond.code yX2_isFull cX2_isFull 1 (some .boolean) ∈ q_tb := by decide +kernel
def sp_X2_boardNamed : QP := fun ra μ K => match ra with
  | [.inl letter, .inr (.inr this)] => q_pl this ∧ q_r letter ∧ K (some (.inl (if 0 ≤ letter ∧ letter < 26 then μ (this + 2) letter else -1))) μ
  | _ => False
theorem sp_X2_boardNamed_e (this letter : Int) (μ : QM) (K : Option QV → QM → Prop) : sp_X2_boardNamed [.inl letter, .inr (.inr this)] μ K = (q_pl this ∧ q_r letter ∧ K (some (.inl (if 0 ≤ letter ∧ letter < 26 then μ (this + 2) letter else -1))) μ) := propext Iff.rfl
theorem sp_X2_boardNamed_i {ra : List QV} {μ : QM} {K : Option QV → QM → Prop} (h : sp_X2_boardNamed ra μ K) : ∃ this letter : Int, ra = [.inl letter, .inr (.inr this)] ∧ (q_pl this ∧ q_r letter ∧ K (some (.inl (if 0 ≤ letter ∧ letter < 26 then μ (this + 2) letter else -1))) μ) := by
  unfold sp_X2_boardNamed at h
  split at h
  · exact ⟨_, _, rfl, h⟩
  · exact h.elim
def rm_X2_boardNamed : Room := { frames := 0, cells := 0, slots := 0, locals := 0 }
def G_X2_boardNamed : Nat → Nat × QP := fun i => match i with
  | _ => (0, fun _ _ _ => False)
set_option maxRecDepth 100000 in
set_option maxHeartbeats 4000000 in
theorem B_X2_boardNamed : q_Body cX2_boardNamed 2 u_X2_boardNamed fl_X2 ld_X2 G_X2_boardNamed q_T 0 s_X2_boardNamed sp_X2_boardNamed := by
  intro S Rt hR ra μ h
  obtain ⟨this, letter, rfl, h⟩ := sp_X2_boardNamed_i h
  refine ⟨by simp [q_sl, q_ct], ?_⟩
  show S 0 [some (.inr (.inr this)), some (.inl letter)] [] μ
  obtain ⟨h1, h2, hk⟩ := h
  have hT := T_plan h1
  have hT2 := T_bof h1
  have h0 : 0 ≤ this := by omega
  refine hR 40 [] 0 _ _ _ rfl ?_
  simp only [v_opt_n, v_opt_s, v_nil, v_iconst, v_bipush, v_sipush, v_lconst0, v_lconst1, v_ldc, v_ldcw, v_ldc2, v_iload0, v_iload1, v_iload2, v_iload3, v_iload, v_lload0, v_lload1, v_lload2, v_lload3, v_lload, v_aload0, v_aload1, v_aload2, v_aload3, v_aload, v_istore0, v_istore1, v_istore2, v_istore3, v_istore, v_lstore0, v_lstore1, v_lstore2, v_lstore3, v_lstore, v_astore0, v_astore1, v_astore2, v_astore3, v_astore, v_iinc, v_iadd, v_isub, v_imul, v_iand, v_ior, v_ixor, v_ishl, v_ishr, v_iushr, v_ineg, v_idiv, v_irem, v_ladd, v_lsub, v_lmul, v_lcmp, v_i2l, v_l2i, v_i2c, v_dup, v_dup2, v_if_eq, v_if_ne, v_if_lt, v_if_ge, v_if_gt, v_if_le, v_ic_eq, v_ic_ne, v_ic_lt, v_ic_ge, v_ic_gt, v_ic_le, v_goto, v_tsw, v_lsw, v_ireturn, v_areturn, v_return, v_iaload, v_laload, v_baload, v_caload, v_aaload, v_iastore, v_lastore, v_bastore, v_castore, v_alen, v_invvi, v_invst, v_invsp, e_int, e_lng, e_ref, e_lg0, e_lg1, e_lg2, e_lg3, e_lg4, e_lg5, e_lg6, e_lg7, e_lg8, e_lg9, e_lg10, e_lg11, e_lg12, e_lg13, e_clrI, e_clrJ, e_clrP, e_clrN, e_s0, e_s1, e_s2, e_s3, e_s4, e_s5, e_s6, e_s7, e_s8, e_s9, e_s10, e_s11, e_s12, e_s13, e_t0, e_t1, e_t2, e_t3, e_t4, e_t5, e_t6, e_t7, e_t8, e_t9, e_t10, e_t11, e_t12, e_t13, e_fd, e_kk, e_k0, e_k1, e_k2, e_k3, e_k4, e_k5, e_k6, e_k7, e_k8, e_k9, e_sv0, e_sv1, e_sv2, e_sv3, e_svc, e_pf0, e_pf1, e_pf2, e_pf3, e_ar, e_aa, e_al, e_sw1, e_sw2, e_ct0, e_ct1, e_ct2, e_cat0, e_cat1, e_rk0, e_rk1, e_rk2, e_inv0, e_inv1, e_inv2, e_inv3, e_inv4, e_inv5, e_inv6, e_o0, e_o1, e_cl, e_cle, e_cg, e_cge, e_ce, e_cr1, e_cr2, e_r, e_R, e_up, Int.cast_ofNat_Int, u_app, false_and, and_false, e_b0, e_b1, e_bn, e_bl, e_bu, Int.reduceLE, Int.reduceLT, Int.reduceEq, Int.reduceNeg, Int.reduceAdd, Int.reduceSub, Int.reduceMul, Nat.reduceLeDiff, Nat.reduceLT, Nat.reduceAdd, Nat.reduceEqDiff, true_and, and_true, true_or, or_true, false_or, or_false, forall_const, not_true_eq_false, not_false_eq_true, true_implies, false_implies, implies_true, and_self, zero_ne_one, one_ne_zero, eq_self, reduceIte, v_getf, v_putf, s_X2_boardNamed_0, b_X2_boardNamed_0, s_X2_boardNamed_4, b_X2_boardNamed_4, s_X2_boardNamed_10, b_X2_boardNamed_10, s_X2_boardNamed_19, b_X2_boardNamed_19, s_X2_boardNamed_20, b_X2_boardNamed_20, fl_X2_17, hT, hT2]
  split at hk <;> (repeat' (first | assumption | (refine And.intro ?_ ?_) | (intro _))) <;> first | omega | (exfalso; omega)
set_option maxRecDepth 100000 in
theorem C_X2_boardNamed {l : Launch} {ad : Int → Nat} {D : va_G} {cy : Nat → ClassId} {Z : State → Prop} (hZ : q_Zg ad Z) : q_Ct l q_T q_N ad D cy Z yX2_boardNamed cX2_boardNamed 2 (some .int) rm_X2_boardNamed sp_X2_boardNamed := by
  obtain ⟨hf, hg, hld⟩ := q_chkS k_X2_boardNamed
  refine q_met (rk := 0) q_wokT (by decide) rfl hf hg hld rfl (q_skS L_X2_boardNamed o_X2_boardNamed) ?_ ?_ ?_ ?_ B_X2_boardNamed
  · intro i hi; exact absurd hi List.not_mem_nil
  · intro i hi; exact absurd hi List.not_mem_nil
  · intro i hi; exact absurd hi List.not_mem_nil
  · intro i hi; exact absurd hi List.not_mem_nil
theorem rv_X2_boardNamed : q_rcv q_T yX2_boardNamed.cls sp_X2_boardNamed := by
  intro ra μ K h
  obtain ⟨this, letter, rfl, h⟩ := sp_X2_boardNamed_i h
  rcases h.1 with rfl | rfl
  · exact ⟨[.inl letter], 39, 2, _, _, rfl, T_39, rfl, rfl⟩
  · exact ⟨[.inl letter], 62, 2, _, _, rfl, T_62, rfl, rfl⟩
theorem cm_X2_boardNamed : Cond.code yX2_boardNamed cX2_boardNamed 2 (some .int) ∈ q_tb := by decide +kernel
def sp_X2_close : QP := fun ra μ K => match ra with
  | [.inl letter, .inr (.inr this)] => q_pl this ∧ (0 ≤ letter ∧ letter < 26) ∧ (0 ≤ μ this 2 ∧ μ this 2 < 10) ∧ K none (q_up (q_up μ (this + 2) letter (μ this 2)) this 2 (μ this 2 + 1))
  | _ => False
theorem sp_X2_close_e (this letter : Int) (μ : QM) (K : Option QV → QM → Prop) : sp_X2_close [.inl letter, .inr (.inr this)] μ K = (q_pl this ∧ (0 ≤ letter ∧ letter < 26) ∧ (0 ≤ μ this 2 ∧ μ this 2 < 10) ∧ K none (q_up (q_up μ (this + 2) letter (μ this 2)) this 2 (μ this 2 + 1))) := propext Iff.rfl
theorem sp_X2_close_i {ra : List QV} {μ : QM} {K : Option QV → QM → Prop} (h : sp_X2_close ra μ K) : ∃ this letter : Int, ra = [.inl letter, .inr (.inr this)] ∧ (q_pl this ∧ (0 ≤ letter ∧ letter < 26) ∧ (0 ≤ μ this 2 ∧ μ this 2 < 10) ∧ K none (q_up (q_up μ (this + 2) letter (μ this 2)) this 2 (μ this 2 + 1))) := by
  unfold sp_X2_close at h
  split at h
  · exact ⟨_, _, rfl, h⟩
  · exact h.elim
def rm_X2_close : Room := { frames := 1, cells := 0, slots := 0, locals := 20 }
def G_X2_close : Nat → Nat × QP := fun i => match i with
  | 35 => (1, sp_X2_isFull)
  | _ => (0, fun _ _ _ => False)
theorem G_X2_close_35 : G_X2_close 35 = (1, sp_X2_isFull) := id rfl
set_option maxRecDepth 100000 in
set_option maxHeartbeats 4000000 in
theorem B_X2_close : q_Body cX2_close 2 u_X2_close fl_X2 ld_X2 G_X2_close q_T 4 s_X2_close sp_X2_close := by
  intro S Rt hR ra μ h
  obtain ⟨this, letter, rfl, h⟩ := sp_X2_close_i h
  refine ⟨by simp [q_sl, q_ct], ?_⟩
  show S 0 [some (.inr (.inr this)), some (.inl letter)] [] μ
  obtain ⟨h1, h2, h3, hk⟩ := h
  have hT := T_plan h1
  have hT2 := T_bof h1
  have h0 : 0 ≤ this := by omega
  have e : (this = this + 2) = False := eq_false (by omega)
  refine hR 40 [] 0 _ _ _ rfl ?_
  simp only [v_opt_n, v_opt_s, v_nil, v_iconst, v_bipush, v_sipush, v_lconst0, v_lconst1, v_ldc, v_ldcw, v_ldc2, v_iload0, v_iload1, v_iload2, v_iload3, v_iload, v_lload0, v_lload1, v_lload2, v_lload3, v_lload, v_aload0, v_aload1, v_aload2, v_aload3, v_aload, v_istore0, v_istore1, v_istore2, v_istore3, v_istore, v_lstore0, v_lstore1, v_lstore2, v_lstore3, v_lstore, v_astore0, v_astore1, v_astore2, v_astore3, v_astore, v_iinc, v_iadd, v_isub, v_imul, v_iand, v_ior, v_ixor, v_ishl, v_ishr, v_iushr, v_ineg, v_idiv, v_irem, v_ladd, v_lsub, v_lmul, v_lcmp, v_i2l, v_l2i, v_i2c, v_dup, v_dup2, v_if_eq, v_if_ne, v_if_lt, v_if_ge, v_if_gt, v_if_le, v_ic_eq, v_ic_ne, v_ic_lt, v_ic_ge, v_ic_gt, v_ic_le, v_goto, v_tsw, v_lsw, v_ireturn, v_areturn, v_return, v_iaload, v_laload, v_baload, v_caload, v_aaload, v_iastore, v_lastore, v_bastore, v_castore, v_alen, v_invvi, v_invst, v_invsp, e_int, e_lng, e_ref, e_lg0, e_lg1, e_lg2, e_lg3, e_lg4, e_lg5, e_lg6, e_lg7, e_lg8, e_lg9, e_lg10, e_lg11, e_lg12, e_lg13, e_clrI, e_clrJ, e_clrP, e_clrN, e_s0, e_s1, e_s2, e_s3, e_s4, e_s5, e_s6, e_s7, e_s8, e_s9, e_s10, e_s11, e_s12, e_s13, e_t0, e_t1, e_t2, e_t3, e_t4, e_t5, e_t6, e_t7, e_t8, e_t9, e_t10, e_t11, e_t12, e_t13, e_fd, e_kk, e_k0, e_k1, e_k2, e_k3, e_k4, e_k5, e_k6, e_k7, e_k8, e_k9, e_sv0, e_sv1, e_sv2, e_sv3, e_svc, e_pf0, e_pf1, e_pf2, e_pf3, e_ar, e_aa, e_al, e_sw1, e_sw2, e_ct0, e_ct1, e_ct2, e_cat0, e_cat1, e_rk0, e_rk1, e_rk2, e_inv0, e_inv1, e_inv2, e_inv3, e_inv4, e_inv5, e_inv6, e_o0, e_o1, e_cl, e_cle, e_cg, e_cge, e_ce, e_cr1, e_cr2, e_r, e_R, e_up, Int.cast_ofNat_Int, u_app, false_and, and_false, e_b0, e_b1, e_bn, e_bl, e_bu, Int.reduceLE, Int.reduceLT, Int.reduceEq, Int.reduceNeg, Int.reduceAdd, Int.reduceSub, Int.reduceMul, Nat.reduceLeDiff, Nat.reduceLT, Nat.reduceAdd, Nat.reduceEqDiff, true_and, and_true, true_or, or_true, false_or, or_false, forall_const, not_true_eq_false, not_false_eq_true, true_implies, false_implies, implies_true, and_self, zero_ne_one, one_ne_zero, eq_self, reduceIte, v_getf, v_putf, s_X2_close_0, b_X2_close_0, s_X2_close_4, b_X2_close_4, s_X2_close_10, b_X2_close_10, s_X2_close_17, b_X2_close_17, s_X2_close_37, b_X2_close_37, fl_X2_17, fl_X2_25, G_X2_close_35, sp_X2_isFull_e, hT, hT2, e]
  exact ⟨by omega, fun c => by omega, fun c => ⟨by omega, fun c => by omega, fun c => ⟨h0, h1, by omega, fun c => by omega, fun c => ⟨h0, h0, h2.1, h2.2, h0, hk⟩⟩⟩⟩
set_option maxRecDepth 100000 in
theorem C_X2_close {l : Launch} {ad : Int → Nat} {D : va_G} {cy : Nat → ClassId} {Z : State → Prop} (hZ : q_Zg ad Z) : q_Ct l q_T q_N ad D cy Z yX2_close cX2_close 2 none rm_X2_close sp_X2_close := by
  obtain ⟨hf, hg, hld⟩ := q_chkS k_X2_close
  refine q_met (rk := 4) q_wokT (by decide) rfl hf hg hld rfl (q_skS L_X2_close o_X2_close) ?_ ?_ ?_ ?_ B_X2_close
  · intro i hi; exact absurd hi List.not_mem_nil
  · intro i hi
    have hi : i = 35 := by simpa [u_X2_close] using hi
    rcases hi with rfl
    · exact q_crV hZ.1 (C_X2_isFull hZ) rv_X2_isFull cm_X2_isFull (by decide +kernel) (by decide +kernel) (by decide +kernel) (by decide +kernel) (by decide +kernel) ⟨rfl, rfl⟩ (by decide)
  · intro i hi; exact absurd hi List.not_mem_nil
  · intro i hi; exact absurd hi List.not_mem_nil
theorem rv_X2_close : q_rcv q_T yX2_close.cls sp_X2_close := by
  intro ra μ K h
  obtain ⟨this, letter, rfl, h⟩ := sp_X2_close_i h
  rcases h.1 with rfl | rfl
  · exact ⟨[.inl letter], 39, 2, _, _, rfl, T_39, rfl, rfl⟩
  · exact ⟨[.inl letter], 62, 2, _, _, rfl, T_62, rfl, rfl⟩
theorem cm_X2_close : Cond.code yX2_close cX2_close 2 none ∈ q_tb := by decide +kernel
def sp_X4_begin : QP := fun ra μ K => match ra with
  | [.inl newKind, .inr (.inr this)] => q_rc this ∧ K none (q_up (q_up (q_up (q_up μ this 2 newKind) this 1 0) this 3 13) this 4 0)
  | _ => False
theorem sp_X4_begin_e (this newKind : Int) (μ : QM) (K : Option QV → QM → Prop) : sp_X4_begin [.inl newKind, .inr (.inr this)] μ K = (q_rc this ∧ K none (q_up (q_up (q_up (q_up μ this 2 newKind) this 1 0) this 3 13) this 4 0)) := propext Iff.rfl
theorem sp_X4_begin_i {ra : List QV} {μ : QM} {K : Option QV → QM → Prop} (h : sp_X4_begin ra μ K) : ∃ this newKind : Int, ra = [.inl newKind, .inr (.inr this)] ∧ (q_rc this ∧ K none (q_up (q_up (q_up (q_up μ this 2 newKind) this 1 0) this 3 13) this 4 0)) := by
  unfold sp_X4_begin at h
  split at h
  · exact ⟨_, _, rfl, h⟩
  · exact h.elim
def rm_X4_begin : Room := { frames := 0, cells := 0, slots := 0, locals := 0 }
def G_X4_begin : Nat → Nat × QP := fun i => match i with
  | _ => (0, fun _ _ _ => False)
set_option maxRecDepth 100000 in
set_option maxHeartbeats 4000000 in
theorem B_X4_begin : q_Body cX4_begin 2 u_X4_begin fl_X4 ld_X4 G_X4_begin q_T 4 s_X4_begin sp_X4_begin := by
  intro S Rt hR ra μ h
  obtain ⟨this, newKind, rfl, h⟩ := sp_X4_begin_i h
  refine ⟨by simp [q_sl, q_ct], ?_⟩
  show S 0 [some (.inr (.inr this)), some (.inl newKind)] [] μ
  obtain ⟨h1, hk⟩ := h
  have hT := T_rec h1
  have h0 : 0 ≤ this := by omega
  refine hR 40 [] 0 _ _ _ rfl ?_
  simp only [v_opt_n, v_opt_s, v_nil, v_iconst, v_bipush, v_sipush, v_lconst0, v_lconst1, v_ldc, v_ldcw, v_ldc2, v_iload0, v_iload1, v_iload2, v_iload3, v_iload, v_lload0, v_lload1, v_lload2, v_lload3, v_lload, v_aload0, v_aload1, v_aload2, v_aload3, v_aload, v_istore0, v_istore1, v_istore2, v_istore3, v_istore, v_lstore0, v_lstore1, v_lstore2, v_lstore3, v_lstore, v_astore0, v_astore1, v_astore2, v_astore3, v_astore, v_iinc, v_iadd, v_isub, v_imul, v_iand, v_ior, v_ixor, v_ishl, v_ishr, v_iushr, v_ineg, v_idiv, v_irem, v_ladd, v_lsub, v_lmul, v_lcmp, v_i2l, v_l2i, v_i2c, v_dup, v_dup2, v_if_eq, v_if_ne, v_if_lt, v_if_ge, v_if_gt, v_if_le, v_ic_eq, v_ic_ne, v_ic_lt, v_ic_ge, v_ic_gt, v_ic_le, v_goto, v_tsw, v_lsw, v_ireturn, v_areturn, v_return, v_iaload, v_laload, v_baload, v_caload, v_aaload, v_iastore, v_lastore, v_bastore, v_castore, v_alen, v_invvi, v_invst, v_invsp, e_int, e_lng, e_ref, e_lg0, e_lg1, e_lg2, e_lg3, e_lg4, e_lg5, e_lg6, e_lg7, e_lg8, e_lg9, e_lg10, e_lg11, e_lg12, e_lg13, e_clrI, e_clrJ, e_clrP, e_clrN, e_s0, e_s1, e_s2, e_s3, e_s4, e_s5, e_s6, e_s7, e_s8, e_s9, e_s10, e_s11, e_s12, e_s13, e_t0, e_t1, e_t2, e_t3, e_t4, e_t5, e_t6, e_t7, e_t8, e_t9, e_t10, e_t11, e_t12, e_t13, e_fd, e_kk, e_k0, e_k1, e_k2, e_k3, e_k4, e_k5, e_k6, e_k7, e_k8, e_k9, e_sv0, e_sv1, e_sv2, e_sv3, e_svc, e_pf0, e_pf1, e_pf2, e_pf3, e_ar, e_aa, e_al, e_sw1, e_sw2, e_ct0, e_ct1, e_ct2, e_cat0, e_cat1, e_rk0, e_rk1, e_rk2, e_inv0, e_inv1, e_inv2, e_inv3, e_inv4, e_inv5, e_inv6, e_o0, e_o1, e_cl, e_cle, e_cg, e_cge, e_ce, e_cr1, e_cr2, e_r, e_R, e_up, Int.cast_ofNat_Int, u_app, false_and, and_false, e_b0, e_b1, e_bn, e_bl, e_bu, Int.reduceLE, Int.reduceLT, Int.reduceEq, Int.reduceNeg, Int.reduceAdd, Int.reduceSub, Int.reduceMul, Nat.reduceLeDiff, Nat.reduceLT, Nat.reduceAdd, Nat.reduceEqDiff, true_and, and_true, true_or, or_true, false_or, or_false, forall_const, not_true_eq_false, not_false_eq_true, true_implies, false_implies, implies_true, and_self, zero_ne_one, one_ne_zero, eq_self, reduceIte, v_getf, v_putf, s_X4_begin_0, b_X4_begin_0, fl_X4_15, fl_X4_19, fl_X4_22, fl_X4_25, hT]
  exact ⟨h0, h0, h0, h0, hk⟩
set_option maxRecDepth 100000 in
theorem C_X4_begin {l : Launch} {ad : Int → Nat} {D : va_G} {cy : Nat → ClassId} {Z : State → Prop} (hZ : q_Zg ad Z) : q_Ct l q_T q_N ad D cy Z yX4_begin cX4_begin 2 none rm_X4_begin sp_X4_begin := by
  obtain ⟨hf, hg, hld⟩ := q_chkS k_X4_begin
  refine q_met (rk := 4) q_wokT (by decide) rfl hf hg hld rfl (q_skS L_X4_begin o_X4_begin) ?_ ?_ ?_ ?_ B_X4_begin
  · intro i hi; exact absurd hi List.not_mem_nil
  · intro i hi; exact absurd hi List.not_mem_nil
  · intro i hi; exact absurd hi List.not_mem_nil
  · intro i hi; exact absurd hi List.not_mem_nil
theorem rv_X4_begin : q_rcv q_T yX4_begin.cls sp_X4_begin := by
  intro ra μ K h
  obtain ⟨this, newKind, rfl, h⟩ := sp_X4_begin_i h
  exact ⟨[.inl newKind], _, 4, _, _, rfl, T_rec h.1, rfl, rfl⟩
theorem cm_X4_begin : Cond.code yX4_begin cX4_begin 2 none ∈ q_tb := by decide +kernel
def sp_X4_name : QP := fun ra μ K => match ra with
  | [.inl board, .inr (.inr this)] => q_rc this ∧ (0 ≤ μ this 1 ∧ μ this 1 < 3) ∧ K none (q_up (q_up μ (this + 10) (μ this 1) board) this 1 (μ this 1 + 1))
  | _ => False
theorem sp_X4_name_e (this board : Int) (μ : QM) (K : Option QV → QM → Prop) : sp_X4_name [.inl board, .inr (.inr this)] μ K = (q_rc this ∧ (0 ≤ μ this 1 ∧ μ this 1 < 3) ∧ K none (q_up (q_up μ (this + 10) (μ this 1) board) this 1 (μ this 1 + 1))) := propext Iff.rfl
theorem sp_X4_name_i {ra : List QV} {μ : QM} {K : Option QV → QM → Prop} (h : sp_X4_name ra μ K) : ∃ this board : Int, ra = [.inl board, .inr (.inr this)] ∧ (q_rc this ∧ (0 ≤ μ this 1 ∧ μ this 1 < 3) ∧ K none (q_up (q_up μ (this + 10) (μ this 1) board) this 1 (μ this 1 + 1))) := by
  unfold sp_X4_name at h
  split at h
  · exact ⟨_, _, rfl, h⟩
  · exact h.elim
def rm_X4_name : Room := { frames := 0, cells := 0, slots := 0, locals := 0 }
def G_X4_name : Nat → Nat × QP := fun i => match i with
  | _ => (0, fun _ _ _ => False)
set_option maxRecDepth 100000 in
set_option maxHeartbeats 4000000 in
theorem B_X4_name : q_Body cX4_name 2 u_X4_name fl_X4 ld_X4 G_X4_name q_T 4 s_X4_name sp_X4_name := by
  intro S Rt hR ra μ h
  obtain ⟨this, board, rfl, h⟩ := sp_X4_name_i h
  refine ⟨by simp [q_sl, q_ct], ?_⟩
  show S 0 [some (.inr (.inr this)), some (.inl board)] [] μ
  obtain ⟨h1, h2, hk⟩ := h
  have hT := T_rec h1
  have hT2 := T_nmd h1
  have h0 : 0 ≤ this := by omega
  have e : (this = this + 10) = False := eq_false (by omega)
  refine hR 40 [] 0 _ _ _ rfl ?_
  simp only [v_opt_n, v_opt_s, v_nil, v_iconst, v_bipush, v_sipush, v_lconst0, v_lconst1, v_ldc, v_ldcw, v_ldc2, v_iload0, v_iload1, v_iload2, v_iload3, v_iload, v_lload0, v_lload1, v_lload2, v_lload3, v_lload, v_aload0, v_aload1, v_aload2, v_aload3, v_aload, v_istore0, v_istore1, v_istore2, v_istore3, v_istore, v_lstore0, v_lstore1, v_lstore2, v_lstore3, v_lstore, v_astore0, v_astore1, v_astore2, v_astore3, v_astore, v_iinc, v_iadd, v_isub, v_imul, v_iand, v_ior, v_ixor, v_ishl, v_ishr, v_iushr, v_ineg, v_idiv, v_irem, v_ladd, v_lsub, v_lmul, v_lcmp, v_i2l, v_l2i, v_i2c, v_dup, v_dup2, v_if_eq, v_if_ne, v_if_lt, v_if_ge, v_if_gt, v_if_le, v_ic_eq, v_ic_ne, v_ic_lt, v_ic_ge, v_ic_gt, v_ic_le, v_goto, v_tsw, v_lsw, v_ireturn, v_areturn, v_return, v_iaload, v_laload, v_baload, v_caload, v_aaload, v_iastore, v_lastore, v_bastore, v_castore, v_alen, v_invvi, v_invst, v_invsp, e_int, e_lng, e_ref, e_lg0, e_lg1, e_lg2, e_lg3, e_lg4, e_lg5, e_lg6, e_lg7, e_lg8, e_lg9, e_lg10, e_lg11, e_lg12, e_lg13, e_clrI, e_clrJ, e_clrP, e_clrN, e_s0, e_s1, e_s2, e_s3, e_s4, e_s5, e_s6, e_s7, e_s8, e_s9, e_s10, e_s11, e_s12, e_s13, e_t0, e_t1, e_t2, e_t3, e_t4, e_t5, e_t6, e_t7, e_t8, e_t9, e_t10, e_t11, e_t12, e_t13, e_fd, e_kk, e_k0, e_k1, e_k2, e_k3, e_k4, e_k5, e_k6, e_k7, e_k8, e_k9, e_sv0, e_sv1, e_sv2, e_sv3, e_svc, e_pf0, e_pf1, e_pf2, e_pf3, e_ar, e_aa, e_al, e_sw1, e_sw2, e_ct0, e_ct1, e_ct2, e_cat0, e_cat1, e_rk0, e_rk1, e_rk2, e_inv0, e_inv1, e_inv2, e_inv3, e_inv4, e_inv5, e_inv6, e_o0, e_o1, e_cl, e_cle, e_cg, e_cge, e_ce, e_cr1, e_cr2, e_r, e_R, e_up, Int.cast_ofNat_Int, u_app, false_and, and_false, e_b0, e_b1, e_bn, e_bl, e_bu, Int.reduceLE, Int.reduceLT, Int.reduceEq, Int.reduceNeg, Int.reduceAdd, Int.reduceSub, Int.reduceMul, Nat.reduceLeDiff, Nat.reduceLT, Nat.reduceAdd, Nat.reduceEqDiff, true_and, and_true, true_or, or_true, false_or, or_false, forall_const, not_true_eq_false, not_false_eq_true, true_implies, false_implies, implies_true, and_self, zero_ne_one, one_ne_zero, eq_self, reduceIte, v_getf, v_putf, s_X4_name_0, b_X4_name_0, s_X4_name_8, b_X4_name_8, s_X4_name_28, b_X4_name_28, fl_X4_19, fl_X4_9, hT, hT2, e]
  exact ⟨h0, by omega, fun c => by omega, fun c => ⟨h0, h0, h2.1, h2.2, h0, hk⟩⟩
set_option maxRecDepth 100000 in
theorem C_X4_name {l : Launch} {ad : Int → Nat} {D : va_G} {cy : Nat → ClassId} {Z : State → Prop} (hZ : q_Zg ad Z) : q_Ct l q_T q_N ad D cy Z yX4_name cX4_name 2 none rm_X4_name sp_X4_name := by
  obtain ⟨hf, hg, hld⟩ := q_chkS k_X4_name
  refine q_met (rk := 4) q_wokT (by decide) rfl hf hg hld rfl (q_skS L_X4_name o_X4_name) ?_ ?_ ?_ ?_ B_X4_name
  · intro i hi; exact absurd hi List.not_mem_nil
  · intro i hi; exact absurd hi List.not_mem_nil
  · intro i hi; exact absurd hi List.not_mem_nil
  · intro i hi; exact absurd hi List.not_mem_nil
theorem rv_X4_name : q_rcv q_T yX4_name.cls sp_X4_name := by
  intro ra μ K h
  obtain ⟨this, board, rfl, h⟩ := sp_X4_name_i h
  exact ⟨[.inl board], _, 4, _, _, rfl, T_rec h.1, rfl, rfl⟩
theorem cm_X4_name : Cond.code yX4_name cX4_name 2 none ∈ q_tb := by decide +kernel
def sp_X4_isWhole : QP := fun ra μ K => match ra with
  | [.inr (.inr this)] => q_rc this ∧ q_r (μ this 2) ∧ K (some (.inl (q_b (μ this 2 = 7 ∨ μ this 2 = 11 ∨ μ this 2 = 12)))) μ
  | _ => False
theorem sp_X4_isWhole_e (this : Int) (μ : QM) (K : Option QV → QM → Prop) : sp_X4_isWhole [.inr (.inr this)] μ K = (q_rc this ∧ q_r (μ this 2) ∧ K (some (.inl (q_b (μ this 2 = 7 ∨ μ this 2 = 11 ∨ μ this 2 = 12)))) μ) := propext Iff.rfl
theorem sp_X4_isWhole_i {ra : List QV} {μ : QM} {K : Option QV → QM → Prop} (h : sp_X4_isWhole ra μ K) : ∃ this : Int, ra = [.inr (.inr this)] ∧ (q_rc this ∧ q_r (μ this 2) ∧ K (some (.inl (q_b (μ this 2 = 7 ∨ μ this 2 = 11 ∨ μ this 2 = 12)))) μ) := by
  unfold sp_X4_isWhole at h
  split at h
  · exact ⟨_, rfl, h⟩
  · exact h.elim
def rm_X4_isWhole : Room := { frames := 0, cells := 0, slots := 0, locals := 0 }
def G_X4_isWhole : Nat → Nat × QP := fun i => match i with
  | _ => (0, fun _ _ _ => False)
set_option maxRecDepth 100000 in
set_option maxHeartbeats 4000000 in
theorem B_X4_isWhole : q_Body cX4_isWhole 1 u_X4_isWhole fl_X4 ld_X4 G_X4_isWhole q_T 1 s_X4_isWhole sp_X4_isWhole := by
  intro S Rt hR ra μ h
  obtain ⟨this, rfl, h⟩ := sp_X4_isWhole_i h
  refine ⟨by simp [q_sl, q_ct], ?_⟩
  show S 0 [some (.inr (.inr this))] [] μ
  obtain ⟨h1, h2, hk⟩ := h
  have hT := T_rec h1
  have h0 : 0 ≤ this := by omega
  unfold q_b at hk
  refine hR 40 [] 0 _ _ _ rfl ?_
  simp only [v_opt_n, v_opt_s, v_nil, v_iconst, v_bipush, v_sipush, v_lconst0, v_lconst1, v_ldc, v_ldcw, v_ldc2, v_iload0, v_iload1, v_iload2, v_iload3, v_iload, v_lload0, v_lload1, v_lload2, v_lload3, v_lload, v_aload0, v_aload1, v_aload2, v_aload3, v_aload, v_istore0, v_istore1, v_istore2, v_istore3, v_istore, v_lstore0, v_lstore1, v_lstore2, v_lstore3, v_lstore, v_astore0, v_astore1, v_astore2, v_astore3, v_astore, v_iinc, v_iadd, v_isub, v_imul, v_iand, v_ior, v_ixor, v_ishl, v_ishr, v_iushr, v_ineg, v_idiv, v_irem, v_ladd, v_lsub, v_lmul, v_lcmp, v_i2l, v_l2i, v_i2c, v_dup, v_dup2, v_if_eq, v_if_ne, v_if_lt, v_if_ge, v_if_gt, v_if_le, v_ic_eq, v_ic_ne, v_ic_lt, v_ic_ge, v_ic_gt, v_ic_le, v_goto, v_tsw, v_lsw, v_ireturn, v_areturn, v_return, v_iaload, v_laload, v_baload, v_caload, v_aaload, v_iastore, v_lastore, v_bastore, v_castore, v_alen, v_invvi, v_invst, v_invsp, e_int, e_lng, e_ref, e_lg0, e_lg1, e_lg2, e_lg3, e_lg4, e_lg5, e_lg6, e_lg7, e_lg8, e_lg9, e_lg10, e_lg11, e_lg12, e_lg13, e_clrI, e_clrJ, e_clrP, e_clrN, e_s0, e_s1, e_s2, e_s3, e_s4, e_s5, e_s6, e_s7, e_s8, e_s9, e_s10, e_s11, e_s12, e_s13, e_t0, e_t1, e_t2, e_t3, e_t4, e_t5, e_t6, e_t7, e_t8, e_t9, e_t10, e_t11, e_t12, e_t13, e_fd, e_kk, e_k0, e_k1, e_k2, e_k3, e_k4, e_k5, e_k6, e_k7, e_k8, e_k9, e_sv0, e_sv1, e_sv2, e_sv3, e_svc, e_pf0, e_pf1, e_pf2, e_pf3, e_ar, e_aa, e_al, e_sw1, e_sw2, e_ct0, e_ct1, e_ct2, e_cat0, e_cat1, e_rk0, e_rk1, e_rk2, e_inv0, e_inv1, e_inv2, e_inv3, e_inv4, e_inv5, e_inv6, e_o0, e_o1, e_cl, e_cle, e_cg, e_cge, e_ce, e_cr1, e_cr2, e_r, e_R, e_up, Int.cast_ofNat_Int, u_app, false_and, and_false, e_b0, e_b1, e_bn, e_bl, e_bu, Int.reduceLE, Int.reduceLT, Int.reduceEq, Int.reduceNeg, Int.reduceAdd, Int.reduceSub, Int.reduceMul, Nat.reduceLeDiff, Nat.reduceLT, Nat.reduceAdd, Nat.reduceEqDiff, true_and, and_true, true_or, or_true, false_or, or_false, forall_const, not_true_eq_false, not_false_eq_true, true_implies, false_implies, implies_true, and_self, zero_ne_one, one_ne_zero, eq_self, reduceIte, v_getf, v_putf, s_X4_isWhole_0, b_X4_isWhole_0, s_X4_isWhole_9, b_X4_isWhole_9, s_X4_isWhole_18, b_X4_isWhole_18, s_X4_isWhole_27, b_X4_isWhole_27, s_X4_isWhole_31, b_X4_isWhole_31, s_X4_isWhole_32, b_X4_isWhole_32, fl_X4_15, hT]
  split at hk <;> (repeat' (first | assumption | (refine And.intro ?_ ?_) | (intro _))) <;> first | omega | (exfalso; omega)
set_option maxRecDepth 100000 in
theorem C_X4_isWhole {l : Launch} {ad : Int → Nat} {D : va_G} {cy : Nat → ClassId} {Z : State → Prop} (hZ : q_Zg ad Z) : q_Ct l q_T q_N ad D cy Z yX4_isWhole cX4_isWhole 1 (some .boolean) rm_X4_isWhole sp_X4_isWhole := by
  obtain ⟨hf, hg, hld⟩ := q_chkS k_X4_isWhole
  refine q_met (rk := 1) q_wokT (by decide) rfl hf hg hld rfl (q_skS L_X4_isWhole o_X4_isWhole) ?_ ?_ ?_ ?_ B_X4_isWhole
  · intro i hi; exact absurd hi List.not_mem_nil
  · intro i hi; exact absurd hi List.not_mem_nil
  · intro i hi; exact absurd hi List.not_mem_nil
  · intro i hi; exact absurd hi List.not_mem_nil
theorem rv_X4_isWhole : q_rcv q_T yX4_isWhole.cls sp_X4_isWhole := by
  intro ra μ K h
  obtain ⟨this, rfl, h⟩ := sp_X4_isWhole_i h
  exact ⟨[], _, 4, _, _, rfl, T_rec h.1, rfl, rfl⟩
theorem cm_X4_isWhole : Cond.code yX4_isWhole cX4_isWhole 1 (some .boolean) ∈ q_tb := by decide +kernel

