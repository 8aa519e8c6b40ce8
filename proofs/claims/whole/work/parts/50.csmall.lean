/-! the class: small methods -/
def sp_X10_isSheet : QP := fun ra μ K => match ra with
  | [.inl n] => q_r n ∧ K (some (.inl (q_b (0 ≤ n ∧ n < 4)))) μ
  | _ => False
theorem sp_X10_isSheet_e (n : Int) (μ : QM) (K : Option QV → QM → Prop) : sp_X10_isSheet [.inl n] μ K = (q_r n ∧ K (some (.inl (q_b (0 ≤ n ∧ n < 4)))) μ) := propext Iff.rfl
theorem sp_X10_isSheet_i {ra : List QV} {μ : QM} {K : Option QV → QM → Prop} (h : sp_X10_isSheet ra μ K) : ∃ n : Int, ra = [.inl n] ∧ (q_r n ∧ K (some (.inl (q_b (0 ≤ n ∧ n < 4)))) μ) := by
  unfold sp_X10_isSheet at h
  split at h
  · exact ⟨_, rfl, h⟩
  · exact h.elim
def rm_X10_isSheet : Room := { frames := 0, cells := 0, slots := 0, locals := 0 }
def G_X10_isSheet : Nat → Nat × QP := fun i => match i with
  | _ => (0, fun _ _ _ => False)
set_option maxRecDepth 100000 in
set_option maxHeartbeats 4000000 in
theorem B_X10_isSheet : q_Body cX10_isSheet 1 u_X10_isSheet fl_X10 ld_X10 G_X10_isSheet q_T 1 s_X10_isSheet sp_X10_isSheet := by
  intro S Rt hR ra μ h
  obtain ⟨n, rfl, h⟩ := sp_X10_isSheet_i h
  refine ⟨by simp [q_sl, q_ct], ?_⟩
  show S 0 [some (.inl n)] [] μ
  obtain ⟨h1, h2⟩ := h
  refine hR 40 [] 0 _ _ _ rfl ?_
  simp only [v_opt_n, v_opt_s, v_nil, v_iconst, v_bipush, v_sipush, v_lconst0, v_lconst1, v_ldc, v_ldcw, v_ldc2, v_iload0, v_iload1, v_iload2, v_iload3, v_iload, v_lload0, v_lload1, v_lload2, v_lload3, v_lload, v_aload0, v_aload1, v_aload2, v_aload3, v_aload, v_istore0, v_istore1, v_istore2, v_istore3, v_istore, v_lstore0, v_lstore1, v_lstore2, v_lstore3, v_lstore, v_astore0, v_astore1, v_astore2, v_astore3, v_astore, v_iinc, v_iadd, v_isub, v_imul, v_iand, v_ior, v_ixor, v_ishl, v_ishr, v_iushr, v_ineg, v_idiv, v_irem, v_ladd, v_lsub, v_lmul, v_lcmp, v_i2l, v_l2i, v_i2c, v_dup, v_dup2, v_if_eq, v_if_ne, v_if_lt, v_if_ge, v_if_gt, v_if_le, v_ic_eq, v_ic_ne, v_ic_lt, v_ic_ge, v_ic_gt, v_ic_le, v_goto, v_tsw, v_lsw, v_ireturn, v_areturn, v_return, v_iaload, v_laload, v_baload, v_caload, v_aaload, v_iastore, v_lastore, v_bastore, v_castore, v_alen, v_invvi, v_invst, v_invsp, e_int, e_lng, e_ref, e_lg0, e_lg1, e_lg2, e_lg3, e_lg4, e_lg5, e_lg6, e_lg7, e_lg8, e_lg9, e_lg10, e_lg11, e_lg12, e_lg13, e_clrI, e_clrJ, e_clrP, e_clrN, e_s0, e_s1, e_s2, e_s3, e_s4, e_s5, e_s6, e_s7, e_s8, e_s9, e_s10, e_s11, e_s12, e_s13, e_t0, e_t1, e_t2, e_t3, e_t4, e_t5, e_t6, e_t7, e_t8, e_t9, e_t10, e_t11, e_t12, e_t13, e_fd, e_kk, e_k0, e_k1, e_k2, e_k3, e_k4, e_k5, e_k6, e_k7, e_k8, e_k9, e_sv0, e_sv1, e_sv2, e_sv3, e_svc, e_pf0, e_pf1, e_pf2, e_pf3, e_ar, e_aa, e_al, e_sw1, e_sw2, e_ct0, e_ct1, e_ct2, e_cat0, e_cat1, e_rk0, e_rk1, e_rk2, e_inv0, e_inv1, e_inv2, e_inv3, e_inv4, e_inv5, e_inv6, e_o0, e_o1, e_cl, e_cle, e_cg, e_cge, e_ce, e_cr1, e_cr2, e_r, e_R, e_up, Int.cast_ofNat_Int, u_app, false_and, and_false, e_b0, e_b1, e_bn, e_bl, e_bu, Int.reduceLE, Int.reduceLT, Int.reduceEq, Int.reduceNeg, Int.reduceAdd, Int.reduceSub, Int.reduceMul, Nat.reduceLeDiff, Nat.reduceLT, Nat.reduceAdd, Nat.reduceEqDiff, true_and, and_true, true_or, or_true, false_or, or_false, forall_const, not_true_eq_false, not_false_eq_true, true_implies, false_implies, implies_true, and_self, zero_ne_one, one_ne_zero, eq_self, reduceIte, s_X10_isSheet_0, b_X10_isSheet_0, s_X10_isSheet_4, b_X10_isSheet_4, s_X10_isSheet_9, b_X10_isSheet_9, s_X10_isSheet_13, b_X10_isSheet_13, s_X10_isSheet_14, b_X10_isSheet_14]
  unfold q_b at h2
  split at h2 <;> (repeat' (first | assumption | (refine And.intro ?_ ?_) | (intro _))) <;> first | omega | (exfalso; omega)
set_option maxRecDepth 100000 in
theorem C_X10_isSheet {l : Launch} {ad : Int → Nat} {D : va_G} {cy : Nat → ClassId} {Z : State → Prop} (hZ : q_Zg ad Z) : q_Ct l q_T q_N ad D cy Z yX10_isSheet cX10_isSheet 1 (some .boolean) rm_X10_isSheet sp_X10_isSheet := by
  obtain ⟨hf, hg, hld⟩ := q_chkS k_X10_isSheet
  refine q_met (rk := 1) q_wokT (by decide) rfl hf hg hld rfl (q_skS L_X10_isSheet o_X10_isSheet) ?_ ?_ ?_ ?_ B_X10_isSheet
  · intro i hi; exact absurd hi List.not_mem_nil
  · intro i hi; exact absurd hi List.not_mem_nil
  · intro i hi; exact absurd hi List.not_mem_nil
  · intro i hi; exact absurd hi List.not_mem_nil
theorem cm_X10_isSheet : Cond.code yX10_isSheet cX10_isSheet 1 (some .boolean) ∈ q_tb := by decide +kernel
def sp_X10_isImage : QP := fun ra μ K => match ra with
  | [.inl n] => q_r n ∧ K (some (.inl (q_b (0 ≤ n ∧ n < 3)))) μ
  | _ => False
theorem sp_X10_isImage_e (n : Int) (μ : QM) (K : Option QV → QM → Prop) : sp_X10_isImage [.inl n] μ K = (q_r n ∧ K (some (.inl (q_b (0 ≤ n ∧ n < 3)))) μ) := propext Iff.rfl
theorem sp_X10_isImage_i {ra : List QV} {μ : QM} {K : Option QV → QM → Prop} (h : sp_X10_isImage ra μ K) : ∃ n : Int, ra = [.inl n] ∧ (q_r n ∧ K (some (.inl (q_b (0 ≤ n ∧ n < 3)))) μ) := by
  unfold sp_X10_isImage at h
  split at h
  · exact ⟨_, rfl, h⟩
  · exact h.elim
def rm_X10_isImage : Room := { frames := 0, cells := 0, slots := 0, locals := 0 }
def G_X10_isImage : Nat → Nat × QP := fun i => match i with
  | _ => (0, fun _ _ _ => False)
set_option maxRecDepth 100000 in
set_option maxHeartbeats 4000000 in
theorem B_X10_isImage : q_Body cX10_isImage 1 u_X10_isImage fl_X10 ld_X10 G_X10_isImage q_T 1 s_X10_isImage sp_X10_isImage := by
  intro S Rt hR ra μ h
  obtain ⟨n, rfl, h⟩ := sp_X10_isImage_i h
  refine ⟨by simp [q_sl, q_ct], ?_⟩
  show S 0 [some (.inl n)] [] μ
  obtain ⟨h1, h2⟩ := h
  refine hR 40 [] 0 _ _ _ rfl ?_
  simp only [v_opt_n, v_opt_s, v_nil, v_iconst, v_bipush, v_sipush, v_lconst0, v_lconst1, v_ldc, v_ldcw, v_ldc2, v_iload0, v_iload1, v_iload2, v_iload3, v_iload, v_lload0, v_lload1, v_lload2, v_lload3, v_lload, v_aload0, v_aload1, v_aload2, v_aload3, v_aload, v_istore0, v_istore1, v_istore2, v_istore3, v_istore, v_lstore0, v_lstore1, v_lstore2, v_lstore3, v_lstore, v_astore0, v_astore1, v_astore2, v_astore3, v_astore, v_iinc, v_iadd, v_isub, v_imul, v_iand, v_ior, v_ixor, v_ishl, v_ishr, v_iushr, v_ineg, v_idiv, v_irem, v_ladd, v_lsub, v_lmul, v_lcmp, v_i2l, v_l2i, v_i2c, v_dup, v_dup2, v_if_eq, v_if_ne, v_if_lt, v_if_ge, v_if_gt, v_if_le, v_ic_eq, v_ic_ne, v_ic_lt, v_ic_ge, v_ic_gt, v_ic_le, v_goto, v_tsw, v_lsw, v_ireturn, v_areturn, v_return, v_iaload, v_laload, v_baload, v_caload, v_aaload, v_iastore, v_lastore, v_bastore, v_castore, v_alen, v_invvi, v_invst, v_invsp, e_int, e_lng, e_ref, e_lg0, e_lg1, e_lg2, e_lg3, e_lg4, e_lg5, e_lg6, e_lg7, e_lg8, e_lg9, e_lg10, e_lg11, e_lg12, e_lg13, e_clrI, e_clrJ, e_clrP, e_clrN, e_s0, e_s1, e_s2, e_s3, e_s4, e_s5, e_s6, e_s7, e_s8, e_s9, e_s10, e_s11, e_s12, e_s13, e_t0, e_t1, e_t2, e_t3, e_t4, e_t5, e_t6, e_t7, e_t8, e_t9, e_t10, e_t11, e_t12, e_t13, e_fd, e_kk, e_k0, e_k1, e_k2, e_k3, e_k4, e_k5, e_k6, e_k7, e_k8, e_k9, e_sv0, e_sv1, e_sv2, e_sv3, e_svc, e_pf0, e_pf1, e_pf2, e_pf3, e_ar, e_aa, e_al, e_sw1, e_sw2, e_ct0, e_ct1, e_ct2, e_cat0, e_cat1, e_rk0, e_rk1, e_rk2, e_inv0, e_inv1, e_inv2, e_inv3, e_inv4, e_inv5, e_inv6, e_o0, e_o1, e_cl, e_cle, e_cg, e_cge, e_ce, e_cr1, e_cr2, e_r, e_R, e_up, Int.cast_ofNat_Int, u_app, false_and, and_false, e_b0, e_b1, e_bn, e_bl, e_bu, Int.reduceLE, Int.reduceLT, Int.reduceEq, Int.reduceNeg, Int.reduceAdd, Int.reduceSub, Int.reduceMul, Nat.reduceLeDiff, Nat.reduceLT, Nat.reduceAdd, Nat.reduceEqDiff, true_and, and_true, true_or, or_true, false_or, or_false, forall_const, not_true_eq_false, not_false_eq_true, true_implies, false_implies, implies_true, and_self, zero_ne_one, one_ne_zero, eq_self, reduceIte, s_X10_isImage_0, b_X10_isImage_0, s_X10_isImage_4, b_X10_isImage_4, s_X10_isImage_9, b_X10_isImage_9, s_X10_isImage_13, b_X10_isImage_13, s_X10_isImage_14, b_X10_isImage_14]
  unfold q_b at h2
  split at h2 <;> (repeat' (first | assumption | (refine And.intro ?_ ?_) | (intro _))) <;> first | omega | (exfalso; omega)
set_option maxRecDepth 100000 in
theorem C_X10_isImage {l : Launch} {ad : Int → Nat} {D : va_G} {cy : Nat → ClassId} {Z : State → Prop} (hZ : q_Zg ad Z) : q_Ct l q_T q_N ad D cy Z yX10_isImage cX10_isImage 1 (some .boolean) rm_X10_isImage sp_X10_isImage := by
  obtain ⟨hf, hg, hld⟩ := q_chkS k_X10_isImage
  refine q_met (rk := 1) q_wokT (by decide) rfl hf hg hld rfl (q_skS L_X10_isImage o_X10_isImage) ?_ ?_ ?_ ?_ B_X10_isImage
  · intro i hi; exact absurd hi List.not_mem_nil
  · intro i hi; exact absurd hi List.not_mem_nil
  · intro i hi; exact absurd hi List.not_mem_nil
  · intro i hi; exact absurd hi List.not_mem_nil
theorem cm_X10_isImage : Cond.code yX10_isImage cX10_isImage 1 (some .boolean) ∈ q_tb := by decide +kernel
def sp_X10_isTellable : QP := fun ra μ K => match ra with
  | [.inl value] => q_r value ∧ K (some (.inl (q_b (value = -2000000000 ∨ (-1000000 ≤ value ∧ value ≤ 1000000))))) μ
  | _ => False
theorem sp_X10_isTellable_e (value : Int) (μ : QM) (K : Option QV → QM → Prop) : sp_X10_isTellable [.inl value] μ K = (q_r value ∧ K (some (.inl (q_b (value = -2000000000 ∨ (-1000000 ≤ value ∧ value ≤ 1000000))))) μ) := propext Iff.rfl
theorem sp_X10_isTellable_i {ra : List QV} {μ : QM} {K : Option QV → QM → Prop} (h : sp_X10_isTellable ra μ K) : ∃ value : Int, ra = [.inl value] ∧ (q_r value ∧ K (some (.inl (q_b (value = -2000000000 ∨ (-1000000 ≤ value ∧ value ≤ 1000000))))) μ) := by
  unfold sp_X10_isTellable at h
  split at h
  · exact ⟨_, rfl, h⟩
  · exact h.elim
def rm_X10_isTellable : Room := { frames := 0, cells := 0, slots := 0, locals := 0 }
def G_X10_isTellable : Nat → Nat × QP := fun i => match i with
  | _ => (0, fun _ _ _ => False)
set_option maxRecDepth 100000 in
set_option maxHeartbeats 4000000 in
theorem B_X10_isTellable : q_Body cX10_isTellable 1 u_X10_isTellable fl_X10 ld_X10 G_X10_isTellable q_T 1 s_X10_isTellable sp_X10_isTellable := by
  intro S Rt hR ra μ h
  obtain ⟨value, rfl, h⟩ := sp_X10_isTellable_i h
  refine ⟨by simp [q_sl, q_ct], ?_⟩
  show S 0 [some (.inl value)] [] μ
  obtain ⟨h1, h2⟩ := h
  refine hR 40 [] 0 _ _ _ rfl ?_
  simp only [v_opt_n, v_opt_s, v_nil, v_iconst, v_bipush, v_sipush, v_lconst0, v_lconst1, v_ldc, v_ldcw, v_ldc2, v_iload0, v_iload1, v_iload2, v_iload3, v_iload, v_lload0, v_lload1, v_lload2, v_lload3, v_lload, v_aload0, v_aload1, v_aload2, v_aload3, v_aload, v_istore0, v_istore1, v_istore2, v_istore3, v_istore, v_lstore0, v_lstore1, v_lstore2, v_lstore3, v_lstore, v_astore0, v_astore1, v_astore2, v_astore3, v_astore, v_iinc, v_iadd, v_isub, v_imul, v_iand, v_ior, v_ixor, v_ishl, v_ishr, v_iushr, v_ineg, v_idiv, v_irem, v_ladd, v_lsub, v_lmul, v_lcmp, v_i2l, v_l2i, v_i2c, v_dup, v_dup2, v_if_eq, v_if_ne, v_if_lt, v_if_ge, v_if_gt, v_if_le, v_ic_eq, v_ic_ne, v_ic_lt, v_ic_ge, v_ic_gt, v_ic_le, v_goto, v_tsw, v_lsw, v_ireturn, v_areturn, v_return, v_iaload, v_laload, v_baload, v_caload, v_aaload, v_iastore, v_lastore, v_bastore, v_castore, v_alen, v_invvi, v_invst, v_invsp, e_int, e_lng, e_ref, e_lg0, e_lg1, e_lg2, e_lg3, e_lg4, e_lg5, e_lg6, e_lg7, e_lg8, e_lg9, e_lg10, e_lg11, e_lg12, e_lg13, e_clrI, e_clrJ, e_clrP, e_clrN, e_s0, e_s1, e_s2, e_s3, e_s4, e_s5, e_s6, e_s7, e_s8, e_s9, e_s10, e_s11, e_s12, e_s13, e_t0, e_t1, e_t2, e_t3, e_t4, e_t5, e_t6, e_t7, e_t8, e_t9, e_t10, e_t11, e_t12, e_t13, e_fd, e_kk, e_k0, e_k1, e_k2, e_k3, e_k4, e_k5, e_k6, e_k7, e_k8, e_k9, e_sv0, e_sv1, e_sv2, e_sv3, e_svc, e_pf0, e_pf1, e_pf2, e_pf3, e_ar, e_aa, e_al, e_sw1, e_sw2, e_ct0, e_ct1, e_ct2, e_cat0, e_cat1, e_rk0, e_rk1, e_rk2, e_inv0, e_inv1, e_inv2, e_inv3, e_inv4, e_inv5, e_inv6, e_o0, e_o1, e_cl, e_cle, e_cg, e_cge, e_ce, e_cr1, e_cr2, e_r, e_R, e_up, Int.cast_ofNat_Int, u_app, false_and, and_false, e_b0, e_b1, e_bn, e_bl, e_bu, Int.reduceLE, Int.reduceLT, Int.reduceEq, Int.reduceNeg, Int.reduceAdd, Int.reduceSub, Int.reduceMul, Nat.reduceLeDiff, Nat.reduceLT, Nat.reduceAdd, Nat.reduceEqDiff, true_and, and_true, true_or, or_true, false_or, or_false, forall_const, not_true_eq_false, not_false_eq_true, true_implies, false_implies, implies_true, and_self, zero_ne_one, one_ne_zero, eq_self, reduceIte, s_X10_isTellable_0, b_X10_isTellable_0, s_X10_isTellable_6, b_X10_isTellable_6, s_X10_isTellable_12, b_X10_isTellable_12, s_X10_isTellable_18, b_X10_isTellable_18, s_X10_isTellable_22, b_X10_isTellable_22, s_X10_isTellable_23, b_X10_isTellable_23, ld_X10_102, ld_X10_188, ld_X10_189]
  unfold q_b at h2
  split at h2 <;> (repeat' (first | assumption | (refine And.intro ?_ ?_) | (intro _))) <;> first | omega | (exfalso; omega)
set_option maxRecDepth 100000 in
theorem C_X10_isTellable {l : Launch} {ad : Int → Nat} {D : va_G} {cy : Nat → ClassId} {Z : State → Prop} (hZ : q_Zg ad Z) : q_Ct l q_T q_N ad D cy Z yX10_isTellable cX10_isTellable 1 (some .boolean) rm_X10_isTellable sp_X10_isTellable := by
  obtain ⟨hf, hg, hld⟩ := q_chkS k_X10_isTellable
  refine q_met (rk := 1) q_wokT (by decide) rfl hf hg hld rfl (q_skS L_X10_isTellable o_X10_isTellable) ?_ ?_ ?_ ?_ B_X10_isTellable
  · intro i hi; exact absurd hi List.not_mem_nil
  · intro i hi; exact absurd hi List.not_mem_nil
  · intro i hi; exact absurd hi List.not_mem_nil
  · intro i hi; exact absurd hi List.not_mem_nil
theorem cm_X10_isTellable : Cond.code yX10_isTellable cX10_isTellable 1 (some .boolean) ∈ q_tb := by decide +kernel
def sp_X10_placeOf : QP := fun ra μ K => match ra with
  | [.inl y, .inl x] => K (some (.inl ((y + 1) * 14 + x + 1))) μ
  | _ => False
theorem sp_X10_placeOf_e (x y : Int) (μ : QM) (K : Option QV → QM → Prop) : sp_X10_placeOf [.inl y, .inl x] μ K = (K (some (.inl ((y + 1) * 14 + x + 1))) μ) := propext Iff.rfl
theorem sp_X10_placeOf_i {ra : List QV} {μ : QM} {K : Option QV → QM → Prop} (h : sp_X10_placeOf ra μ K) : ∃ x y : Int, ra = [.inl y, .inl x] ∧ (K (some (.inl ((y + 1) * 14 + x + 1))) μ) := by
  unfold sp_X10_placeOf at h
  split at h
  · exact ⟨_, _, rfl, h⟩
  · exact h.elim
def rm_X10_placeOf : Room := { frames := 0, cells := 0, slots := 0, locals := 0 }
def G_X10_placeOf : Nat → Nat × QP := fun i => match i with
  | _ => (0, fun _ _ _ => False)
set_option maxRecDepth 100000 in
set_option maxHeartbeats 4000000 in
theorem B_X10_placeOf : q_Body cX10_placeOf 2 u_X10_placeOf fl_X10 ld_X10 G_X10_placeOf q_T 0 s_X10_placeOf sp_X10_placeOf := by
  intro S Rt hR ra μ h
  obtain ⟨x, y, rfl, h⟩ := sp_X10_placeOf_i h
  refine ⟨by simp [q_sl, q_ct], ?_⟩
  show S 0 [some (.inl x), some (.inl y)] [] μ
  refine hR 40 [] 0 _ _ _ rfl ?_
  simp only [v_opt_n, v_opt_s, v_nil, v_iconst, v_bipush, v_sipush, v_lconst0, v_lconst1, v_ldc, v_ldcw, v_ldc2, v_iload0, v_iload1, v_iload2, v_iload3, v_iload, v_lload0, v_lload1, v_lload2, v_lload3, v_lload, v_aload0, v_aload1, v_aload2, v_aload3, v_aload, v_istore0, v_istore1, v_istore2, v_istore3, v_istore, v_lstore0, v_lstore1, v_lstore2, v_lstore3, v_lstore, v_astore0, v_astore1, v_astore2, v_astore3, v_astore, v_iinc, v_iadd, v_isub, v_imul, v_iand, v_ior, v_ixor, v_ishl, v_ishr, v_iushr, v_ineg, v_idiv, v_irem, v_ladd, v_lsub, v_lmul, v_lcmp, v_i2l, v_l2i, v_i2c, v_dup, v_dup2, v_if_eq, v_if_ne, v_if_lt, v_if_ge, v_if_gt, v_if_le, v_ic_eq, v_ic_ne, v_ic_lt, v_ic_ge, v_ic_gt, v_ic_le, v_goto, v_tsw, v_lsw, v_ireturn, v_areturn, v_return, v_iaload, v_laload, v_baload, v_caload, v_aaload, v_iastore, v_lastore, v_bastore, v_castore, v_alen, v_invvi, v_invst, v_invsp, e_int, e_lng, e_ref, e_lg0, e_lg1, e_lg2, e_lg3, e_lg4, e_lg5, e_lg6, e_lg7, e_lg8, e_lg9, e_lg10, e_lg11, e_lg12, e_lg13, e_clrI, e_clrJ, e_clrP, e_clrN, e_s0, e_s1, e_s2, e_s3, e_s4, e_s5, e_s6, e_s7, e_s8, e_s9, e_s10, e_s11, e_s12, e_s13, e_t0, e_t1, e_t2, e_t3, e_t4, e_t5, e_t6, e_t7, e_t8, e_t9, e_t10, e_t11, e_t12, e_t13, e_fd, e_kk, e_k0, e_k1, e_k2, e_k3, e_k4, e_k5, e_k6, e_k7, e_k8, e_k9, e_sv0, e_sv1, e_sv2, e_sv3, e_svc, e_pf0, e_pf1, e_pf2, e_pf3, e_ar, e_aa, e_al, e_sw1, e_sw2, e_ct0, e_ct1, e_ct2, e_cat0, e_cat1, e_rk0, e_rk1, e_rk2, e_inv0, e_inv1, e_inv2, e_inv3, e_inv4, e_inv5, e_inv6, e_o0, e_o1, e_cl, e_cle, e_cg, e_cge, e_ce, e_cr1, e_cr2, e_r, e_R, e_up, Int.cast_ofNat_Int, u_app, false_and, and_false, e_b0, e_b1, e_bn, e_bl, e_bu, Int.reduceLE, Int.reduceLT, Int.reduceEq, Int.reduceNeg, Int.reduceAdd, Int.reduceSub, Int.reduceMul, Nat.reduceLeDiff, Nat.reduceLT, Nat.reduceAdd, Nat.reduceEqDiff, true_and, and_true, true_or, or_true, false_or, or_false, forall_const, not_true_eq_false, not_false_eq_true, true_implies, false_implies, implies_true, and_self, zero_ne_one, one_ne_zero, eq_self, reduceIte, s_X10_placeOf_0, b_X10_placeOf_0]
  exact h
set_option maxRecDepth 100000 in
theorem C_X10_placeOf {l : Launch} {ad : Int → Nat} {D : va_G} {cy : Nat → ClassId} {Z : State → Prop} (hZ : q_Zg ad Z) : q_Ct l q_T q_N ad D cy Z yX10_placeOf cX10_placeOf 2 (some .int) rm_X10_placeOf sp_X10_placeOf := by
  obtain ⟨hf, hg, hld⟩ := q_chkS k_X10_placeOf
  refine q_met (rk := 0) q_wokT (by decide) rfl hf hg hld rfl (q_skS L_X10_placeOf o_X10_placeOf) ?_ ?_ ?_ ?_ B_X10_placeOf
  · intro i hi; exact absurd hi List.not_mem_nil
  · intro i hi; exact absurd hi List.not_mem_nil
  · intro i hi; exact absurd hi List.not_mem_nil
  · intro i hi; exact absurd hi List.not_mem_nil
theorem cm_X10_placeOf : Cond.code yX10_placeOf cX10_placeOf 2 (some .int) ∈ q_tb := by decide +kernel
def sp_X10_orGap : QP := fun ra μ K => match ra with
  | [.inr (.inl value)] => q_R value ∧ K (some (.inl (q_kept value))) μ
  | _ => False
theorem sp_X10_orGap_e (value : Int) (μ : QM) (K : Option QV → QM → Prop) : sp_X10_orGap [.inr (.inl value)] μ K = (q_R value ∧ K (some (.inl (q_kept value))) μ) := propext Iff.rfl
theorem sp_X10_orGap_i {ra : List QV} {μ : QM} {K : Option QV → QM → Prop} (h : sp_X10_orGap ra μ K) : ∃ value : Int, ra = [.inr (.inl value)] ∧ (q_R value ∧ K (some (.inl (q_kept value))) μ) := by
  unfold sp_X10_orGap at h
  split at h
  · exact ⟨_, rfl, h⟩
  · exact h.elim
def rm_X10_orGap : Room := { frames := 0, cells := 0, slots := 0, locals := 0 }
def G_X10_orGap : Nat → Nat × QP := fun i => match i with
  | _ => (0, fun _ _ _ => False)
set_option maxRecDepth 100000 in
set_option maxHeartbeats 4000000 in
theorem B_X10_orGap : q_Body cX10_orGap 2 u_X10_orGap fl_X10 ld_X10 G_X10_orGap q_T 0 s_X10_orGap sp_X10_orGap := by
  intro S Rt hR ra μ h
  obtain ⟨value, rfl, h⟩ := sp_X10_orGap_i h
  refine ⟨by simp [q_sl, q_ct], ?_⟩
  show S 0 [some (.inr (.inl value)), none] [] μ
  obtain ⟨h1, h2⟩ := h
  refine hR 40 [] 0 _ _ _ rfl ?_
  simp only [v_opt_n, v_opt_s, v_nil, v_iconst, v_bipush, v_sipush, v_lconst0, v_lconst1, v_ldc, v_ldcw, v_ldc2, v_iload0, v_iload1, v_iload2, v_iload3, v_iload, v_lload0, v_lload1, v_lload2, v_lload3, v_lload, v_aload0, v_aload1, v_aload2, v_aload3, v_aload, v_istore0, v_istore1, v_istore2, v_istore3, v_istore, v_lstore0, v_lstore1, v_lstore2, v_lstore3, v_lstore, v_astore0, v_astore1, v_astore2, v_astore3, v_astore, v_iinc, v_iadd, v_isub, v_imul, v_iand, v_ior, v_ixor, v_ishl, v_ishr, v_iushr, v_ineg, v_idiv, v_irem, v_ladd, v_lsub, v_lmul, v_lcmp, v_i2l, v_l2i, v_i2c, v_dup, v_dup2, v_if_eq, v_if_ne, v_if_lt, v_if_ge, v_if_gt, v_if_le, v_ic_eq, v_ic_ne, v_ic_lt, v_ic_ge, v_ic_gt, v_ic_le, v_goto, v_tsw, v_lsw, v_ireturn, v_areturn, v_return, v_iaload, v_laload, v_baload, v_caload, v_aaload, v_iastore, v_lastore, v_bastore, v_castore, v_alen, v_invvi, v_invst, v_invsp, e_int, e_lng, e_ref, e_lg0, e_lg1, e_lg2, e_lg3, e_lg4, e_lg5, e_lg6, e_lg7, e_lg8, e_lg9, e_lg10, e_lg11, e_lg12, e_lg13, e_clrI, e_clrJ, e_clrP, e_clrN, e_s0, e_s1, e_s2, e_s3, e_s4, e_s5, e_s6, e_s7, e_s8, e_s9, e_s10, e_s11, e_s12, e_s13, e_t0, e_t1, e_t2, e_t3, e_t4, e_t5, e_t6, e_t7, e_t8, e_t9, e_t10, e_t11, e_t12, e_t13, e_fd, e_kk, e_k0, e_k1, e_k2, e_k3, e_k4, e_k5, e_k6, e_k7, e_k8, e_k9, e_sv0, e_sv1, e_sv2, e_sv3, e_svc, e_pf0, e_pf1, e_pf2, e_pf3, e_ar, e_aa, e_al, e_sw1, e_sw2, e_ct0, e_ct1, e_ct2, e_cat0, e_cat1, e_rk0, e_rk1, e_rk2, e_inv0, e_inv1, e_inv2, e_inv3, e_inv4, e_inv5, e_inv6, e_o0, e_o1, e_cl, e_cle, e_cg, e_cge, e_ce, e_cr1, e_cr2, e_r, e_R, e_up, Int.cast_ofNat_Int, u_app, false_and, and_false, e_b0, e_b1, e_bn, e_bl, e_bu, Int.reduceLE, Int.reduceLT, Int.reduceEq, Int.reduceNeg, Int.reduceAdd, Int.reduceSub, Int.reduceMul, Nat.reduceLeDiff, Nat.reduceLT, Nat.reduceAdd, Nat.reduceEqDiff, true_and, and_true, true_or, or_true, false_or, or_false, forall_const, not_true_eq_false, not_false_eq_true, true_implies, false_implies, implies_true, and_self, zero_ne_one, one_ne_zero, eq_self, reduceIte, s_X10_orGap_0, b_X10_orGap_0, s_X10_orGap_8, b_X10_orGap_8, s_X10_orGap_16, b_X10_orGap_16, s_X10_orGap_21, b_X10_orGap_21, s_X10_orGap_23, b_X10_orGap_23, ld_X10_190, ld_X10_192, ld_X10_102]
  unfold q_kept at h2
  split at h2 <;> (repeat' (first | assumption | (refine And.intro ?_ ?_) | (intro _))) <;> first | omega | (exfalso; omega)
set_option maxRecDepth 100000 in
theorem C_X10_orGap {l : Launch} {ad : Int → Nat} {D : va_G} {cy : Nat → ClassId} {Z : State → Prop} (hZ : q_Zg ad Z) : q_Ct l q_T q_N ad D cy Z yX10_orGap cX10_orGap 2 (some .int) rm_X10_orGap sp_X10_orGap := by
  obtain ⟨hf, hg, hld⟩ := q_chkS k_X10_orGap
  refine q_met (rk := 0) q_wokT (by decide) rfl hf hg hld rfl (q_skS L_X10_orGap o_X10_orGap) ?_ ?_ ?_ ?_ B_X10_orGap
  · intro i hi; exact absurd hi List.not_mem_nil
  · intro i hi; exact absurd hi List.not_mem_nil
  · intro i hi; exact absurd hi List.not_mem_nil
  · intro i hi; exact absurd hi List.not_mem_nil
theorem cm_X10_orGap : Cond.code yX10_orGap cX10_orGap 2 (some .int) ∈ q_tb := by decide +kernel
def sp_X10_refuse : QP := fun ra μ K => match ra with
  | [.inl why, .inr (.inr this)] => this = 0 ∧ K (some (.inl why)) (q_up μ 0 8 why)
  | _ => False
theorem sp_X10_refuse_e (this why : Int) (μ : QM) (K : Option QV → QM → Prop) : sp_X10_refuse [.inl why, .inr (.inr this)] μ K = (this = 0 ∧ K (some (.inl why)) (q_up μ 0 8 why)) := propext Iff.rfl
theorem sp_X10_refuse_i {ra : List QV} {μ : QM} {K : Option QV → QM → Prop} (h : sp_X10_refuse ra μ K) : ∃ this why : Int, ra = [.inl why, .inr (.inr this)] ∧ (this = 0 ∧ K (some (.inl why)) (q_up μ 0 8 why)) := by
  unfold sp_X10_refuse at h
  split at h
  · exact ⟨_, _, rfl, h⟩
  · exact h.elim
def rm_X10_refuse : Room := { frames := 0, cells := 0, slots := 0, locals := 0 }
def G_X10_refuse : Nat → Nat × QP := fun i => match i with
  | _ => (0, fun _ _ _ => False)
set_option maxRecDepth 100000 in
set_option maxHeartbeats 4000000 in
theorem B_X10_refuse : q_Body cX10_refuse 2 u_X10_refuse fl_X10 ld_X10 G_X10_refuse q_T 0 s_X10_refuse sp_X10_refuse := by
  intro S Rt hR ra μ h
  obtain ⟨this, why, rfl, h⟩ := sp_X10_refuse_i h
  refine ⟨by simp [q_sl, q_ct], ?_⟩
  show S 0 [some (.inr (.inr this)), some (.inl why)] [] μ
  obtain ⟨rfl, h2⟩ := h
  refine hR 40 [] 0 _ _ _ rfl ?_
  simp only [v_opt_n, v_opt_s, v_nil, v_iconst, v_bipush, v_sipush, v_lconst0, v_lconst1, v_ldc, v_ldcw, v_ldc2, v_iload0, v_iload1, v_iload2, v_iload3, v_iload, v_lload0, v_lload1, v_lload2, v_lload3, v_lload, v_aload0, v_aload1, v_aload2, v_aload3, v_aload, v_istore0, v_istore1, v_istore2, v_istore3, v_istore, v_lstore0, v_lstore1, v_lstore2, v_lstore3, v_lstore, v_astore0, v_astore1, v_astore2, v_astore3, v_astore, v_iinc, v_iadd, v_isub, v_imul, v_iand, v_ior, v_ixor, v_ishl, v_ishr, v_iushr, v_ineg, v_idiv, v_irem, v_ladd, v_lsub, v_lmul, v_lcmp, v_i2l, v_l2i, v_i2c, v_dup, v_dup2, v_if_eq, v_if_ne, v_if_lt, v_if_ge, v_if_gt, v_if_le, v_ic_eq, v_ic_ne, v_ic_lt, v_ic_ge, v_ic_gt, v_ic_le, v_goto, v_tsw, v_lsw, v_ireturn, v_areturn, v_return, v_iaload, v_laload, v_baload, v_caload, v_aaload, v_iastore, v_lastore, v_bastore, v_castore, v_alen, v_invvi, v_invst, v_invsp, e_int, e_lng, e_ref, e_lg0, e_lg1, e_lg2, e_lg3, e_lg4, e_lg5, e_lg6, e_lg7, e_lg8, e_lg9, e_lg10, e_lg11, e_lg12, e_lg13, e_clrI, e_clrJ, e_clrP, e_clrN, e_s0, e_s1, e_s2, e_s3, e_s4, e_s5, e_s6, e_s7, e_s8, e_s9, e_s10, e_s11, e_s12, e_s13, e_t0, e_t1, e_t2, e_t3, e_t4, e_t5, e_t6, e_t7, e_t8, e_t9, e_t10, e_t11, e_t12, e_t13, e_fd, e_kk, e_k0, e_k1, e_k2, e_k3, e_k4, e_k5, e_k6, e_k7, e_k8, e_k9, e_sv0, e_sv1, e_sv2, e_sv3, e_svc, e_pf0, e_pf1, e_pf2, e_pf3, e_ar, e_aa, e_al, e_sw1, e_sw2, e_ct0, e_ct1, e_ct2, e_cat0, e_cat1, e_rk0, e_rk1, e_rk2, e_inv0, e_inv1, e_inv2, e_inv3, e_inv4, e_inv5, e_inv6, e_o0, e_o1, e_cl, e_cle, e_cg, e_cge, e_ce, e_cr1, e_cr2, e_r, e_R, e_up, Int.cast_ofNat_Int, u_app, false_and, and_false, e_b0, e_b1, e_bn, e_bl, e_bu, Int.reduceLE, Int.reduceLT, Int.reduceEq, Int.reduceNeg, Int.reduceAdd, Int.reduceSub, Int.reduceMul, Nat.reduceLeDiff, Nat.reduceLT, Nat.reduceAdd, Nat.reduceEqDiff, true_and, and_true, true_or, or_true, false_or, or_false, forall_const, not_true_eq_false, not_false_eq_true, true_implies, false_implies, implies_true, and_self, zero_ne_one, one_ne_zero, eq_self, reduceIte, s_X10_refuse_0, b_X10_refuse_0, g_X10_62, p_X10_62]
  exact h2
set_option maxRecDepth 100000 in
theorem C_X10_refuse {l : Launch} {ad : Int → Nat} {D : va_G} {cy : Nat → ClassId} {Z : State → Prop} (hZ : q_Zg ad Z) : q_Ct l q_T q_N ad D cy Z yX10_refuse cX10_refuse 2 (some .int) rm_X10_refuse sp_X10_refuse := by
  obtain ⟨hf, hg, hld⟩ := q_chkS k_X10_refuse
  refine q_met (rk := 0) q_wokT (by decide) rfl hf hg hld rfl (q_skS L_X10_refuse o_X10_refuse) ?_ ?_ ?_ ?_ B_X10_refuse
  · intro i hi; exact absurd hi List.not_mem_nil
  · intro i hi; exact absurd hi List.not_mem_nil
  · intro i hi; exact absurd hi List.not_mem_nil
  · intro i hi; exact absurd hi List.not_mem_nil
theorem rv_X10_refuse : q_rcv q_T yX10_refuse.cls sp_X10_refuse := by
  intro ra μ K h
  obtain ⟨this, why, rfl, h⟩ := sp_X10_refuse_i h
  obtain rfl := h.1
  exact ⟨[.inl why], 0, 10, _, _, rfl, T_0, rfl, rfl⟩
theorem cm_X10_refuse : Cond.code yX10_refuse cX10_refuse 2 (some .int) ∈ q_tb := by decide +kernel
def sp_X10_accept : QP := fun ra μ K => match ra with
  | [.inl answer, .inr (.inr this)] => this = 0 ∧ K (some (.inl answer)) (q_up μ 0 8 0)
  | _ => False
theorem sp_X10_accept_e (this answer : Int) (μ : QM) (K : Option QV → QM → Prop) : sp_X10_accept [.inl answer, .inr (.inr this)] μ K = (this = 0 ∧ K (some (.inl answer)) (q_up μ 0 8 0)) := propext Iff.rfl
theorem sp_X10_accept_i {ra : List QV} {μ : QM} {K : Option QV → QM → Prop} (h : sp_X10_accept ra μ K) : ∃ this answer : Int, ra = [.inl answer, .inr (.inr this)] ∧ (this = 0 ∧ K (some (.inl answer)) (q_up μ 0 8 0)) := by
  unfold sp_X10_accept at h
  split at h
  · exact ⟨_, _, rfl, h⟩
  · exact h.elim
def rm_X10_accept : Room := { frames := 0, cells := 0, slots := 0, locals := 0 }
def G_X10_accept : Nat → Nat × QP := fun i => match i with
  | _ => (0, fun _ _ _ => False)
set_option maxRecDepth 100000 in
set_option maxHeartbeats 4000000 in
theorem B_X10_accept : q_Body cX10_accept 2 u_X10_accept fl_X10 ld_X10 G_X10_accept q_T 0 s_X10_accept sp_X10_accept := by
  intro S Rt hR ra μ h
  obtain ⟨this, answer, rfl, h⟩ := sp_X10_accept_i h
  refine ⟨by simp [q_sl, q_ct], ?_⟩
  show S 0 [some (.inr (.inr this)), some (.inl answer)] [] μ
  obtain ⟨rfl, h2⟩ := h
  refine hR 40 [] 0 _ _ _ rfl ?_
  simp only [v_opt_n, v_opt_s, v_nil, v_iconst, v_bipush, v_sipush, v_lconst0, v_lconst1, v_ldc, v_ldcw, v_ldc2, v_iload0, v_iload1, v_iload2, v_iload3, v_iload, v_lload0, v_lload1, v_lload2, v_lload3, v_lload, v_aload0, v_aload1, v_aload2, v_aload3, v_aload, v_istore0, v_istore1, v_istore2, v_istore3, v_istore, v_lstore0, v_lstore1, v_lstore2, v_lstore3, v_lstore, v_astore0, v_astore1, v_astore2, v_astore3, v_astore, v_iinc, v_iadd, v_isub, v_imul, v_iand, v_ior, v_ixor, v_ishl, v_ishr, v_iushr, v_ineg, v_idiv, v_irem, v_ladd, v_lsub, v_lmul, v_lcmp, v_i2l, v_l2i, v_i2c, v_dup, v_dup2, v_if_eq, v_if_ne, v_if_lt, v_if_ge, v_if_gt, v_if_le, v_ic_eq, v_ic_ne, v_ic_lt, v_ic_ge, v_ic_gt, v_ic_le, v_goto, v_tsw, v_lsw, v_ireturn, v_areturn, v_return, v_iaload, v_laload, v_baload, v_caload, v_aaload, v_iastore, v_lastore, v_bastore, v_castore, v_alen, v_invvi, v_invst, v_invsp, e_int, e_lng, e_ref, e_lg0, e_lg1, e_lg2, e_lg3, e_lg4, e_lg5, e_lg6, e_lg7, e_lg8, e_lg9, e_lg10, e_lg11, e_lg12, e_lg13, e_clrI, e_clrJ, e_clrP, e_clrN, e_s0, e_s1, e_s2, e_s3, e_s4, e_s5, e_s6, e_s7, e_s8, e_s9, e_s10, e_s11, e_s12, e_s13, e_t0, e_t1, e_t2, e_t3, e_t4, e_t5, e_t6, e_t7, e_t8, e_t9, e_t10, e_t11, e_t12, e_t13, e_fd, e_kk, e_k0, e_k1, e_k2, e_k3, e_k4, e_k5, e_k6, e_k7, e_k8, e_k9, e_sv0, e_sv1, e_sv2, e_sv3, e_svc, e_pf0, e_pf1, e_pf2, e_pf3, e_ar, e_aa, e_al, e_sw1, e_sw2, e_ct0, e_ct1, e_ct2, e_cat0, e_cat1, e_rk0, e_rk1, e_rk2, e_inv0, e_inv1, e_inv2, e_inv3, e_inv4, e_inv5, e_inv6, e_o0, e_o1, e_cl, e_cle, e_cg, e_cge, e_ce, e_cr1, e_cr2, e_r, e_R, e_up, Int.cast_ofNat_Int, u_app, false_and, and_false, e_b0, e_b1, e_bn, e_bl, e_bu, Int.reduceLE, Int.reduceLT, Int.reduceEq, Int.reduceNeg, Int.reduceAdd, Int.reduceSub, Int.reduceMul, Nat.reduceLeDiff, Nat.reduceLT, Nat.reduceAdd, Nat.reduceEqDiff, true_and, and_true, true_or, or_true, false_or, or_false, forall_const, not_true_eq_false, not_false_eq_true, true_implies, false_implies, implies_true, and_self, zero_ne_one, one_ne_zero, eq_self, reduceIte, s_X10_accept_0, b_X10_accept_0, g_X10_62, p_X10_62]
  exact h2
set_option maxRecDepth 100000 in
theorem C_X10_accept {l : Launch} {ad : Int → Nat} {D : va_G} {cy : Nat → ClassId} {Z : State → Prop} (hZ : q_Zg ad Z) : q_Ct l q_T q_N ad D cy Z yX10_accept cX10_accept 2 (some .int) rm_X10_accept sp_X10_accept := by
  obtain ⟨hf, hg, hld⟩ := q_chkS k_X10_accept
  refine q_met (rk := 0) q_wokT (by decide) rfl hf hg hld rfl (q_skS L_X10_accept o_X10_accept) ?_ ?_ ?_ ?_ B_X10_accept
  · intro i hi; exact absurd hi List.not_mem_nil
  · intro i hi; exact absurd hi List.not_mem_nil
  · intro i hi; exact absurd hi List.not_mem_nil
  · intro i hi; exact absurd hi List.not_mem_nil
theorem rv_X10_accept : q_rcv q_T yX10_accept.cls sp_X10_accept := by
  intro ra μ K h
  obtain ⟨this, answer, rfl, h⟩ := sp_X10_accept_i h
  obtain rfl := h.1
  exact ⟨[.inl answer], 0, 10, _, _, rfl, T_0, rfl, rfl⟩
theorem cm_X10_accept : Cond.code yX10_accept cX10_accept 2 (some .int) ∈ q_tb := by decide +kernel
def sp_X10_status : QP := fun ra μ K => match ra with
  | [.inr (.inr this)] => this = 0 ∧ K (some (.inl (μ 0 8))) μ
  | _ => False
theorem sp_X10_status_e (this : Int) (μ : QM) (K : Option QV → QM → Prop) : sp_X10_status [.inr (.inr this)] μ K = (this = 0 ∧ K (some (.inl (μ 0 8))) μ) := propext Iff.rfl
theorem sp_X10_status_i {ra : List QV} {μ : QM} {K : Option QV → QM → Prop} (h : sp_X10_status ra μ K) : ∃ this : Int, ra = [.inr (.inr this)] ∧ (this = 0 ∧ K (some (.inl (μ 0 8))) μ) := by
  unfold sp_X10_status at h
  split at h
  · exact ⟨_, rfl, h⟩
  · exact h.elim
def rm_X10_status : Room := { frames := 0, cells := 0, slots := 0, locals := 0 }
def G_X10_status : Nat → Nat × QP := fun i => match i with
  | _ => (0, fun _ _ _ => False)
set_option maxRecDepth 100000 in
set_option maxHeartbeats 4000000 in
theorem B_X10_status : q_Body cX10_status 1 u_X10_status fl_X10 ld_X10 G_X10_status q_T 0 s_X10_status sp_X10_status := by
  intro S Rt hR ra μ h
  obtain ⟨this, rfl, h⟩ := sp_X10_status_i h
  refine ⟨by simp [q_sl, q_ct], ?_⟩
  show S 0 [some (.inr (.inr this))] [] μ
  obtain ⟨rfl, h2⟩ := h
  refine hR 40 [] 0 _ _ _ rfl ?_
  simp only [v_opt_n, v_opt_s, v_nil, v_iconst, v_bipush, v_sipush, v_lconst0, v_lconst1, v_ldc, v_ldcw, v_ldc2, v_iload0, v_iload1, v_iload2, v_iload3, v_iload, v_lload0, v_lload1, v_lload2, v_lload3, v_lload, v_aload0, v_aload1, v_aload2, v_aload3, v_aload, v_istore0, v_istore1, v_istore2, v_istore3, v_istore, v_lstore0, v_lstore1, v_lstore2, v_lstore3, v_lstore, v_astore0, v_astore1, v_astore2, v_astore3, v_astore, v_iinc, v_iadd, v_isub, v_imul, v_iand, v_ior, v_ixor, v_ishl, v_ishr, v_iushr, v_ineg, v_idiv, v_irem, v_ladd, v_lsub, v_lmul, v_lcmp, v_i2l, v_l2i, v_i2c, v_dup, v_dup2, v_if_eq, v_if_ne, v_if_lt, v_if_ge, v_if_gt, v_if_le, v_ic_eq, v_ic_ne, v_ic_lt, v_ic_ge, v_ic_gt, v_ic_le, v_goto, v_tsw, v_lsw, v_ireturn, v_areturn, v_return, v_iaload, v_laload, v_baload, v_caload, v_aaload, v_iastore, v_lastore, v_bastore, v_castore, v_alen, v_invvi, v_invst, v_invsp, e_int, e_lng, e_ref, e_lg0, e_lg1, e_lg2, e_lg3, e_lg4, e_lg5, e_lg6, e_lg7, e_lg8, e_lg9, e_lg10, e_lg11, e_lg12, e_lg13, e_clrI, e_clrJ, e_clrP, e_clrN, e_s0, e_s1, e_s2, e_s3, e_s4, e_s5, e_s6, e_s7, e_s8, e_s9, e_s10, e_s11, e_s12, e_s13, e_t0, e_t1, e_t2, e_t3, e_t4, e_t5, e_t6, e_t7, e_t8, e_t9, e_t10, e_t11, e_t12, e_t13, e_fd, e_kk, e_k0, e_k1, e_k2, e_k3, e_k4, e_k5, e_k6, e_k7, e_k8, e_k9, e_sv0, e_sv1, e_sv2, e_sv3, e_svc, e_pf0, e_pf1, e_pf2, e_pf3, e_ar, e_aa, e_al, e_sw1, e_sw2, e_ct0, e_ct1, e_ct2, e_cat0, e_cat1, e_rk0, e_rk1, e_rk2, e_inv0, e_inv1, e_inv2, e_inv3, e_inv4, e_inv5, e_inv6, e_o0, e_o1, e_cl, e_cle, e_cg, e_cge, e_ce, e_cr1, e_cr2, e_r, e_R, e_up, Int.cast_ofNat_Int, u_app, false_and, and_false, e_b0, e_b1, e_bn, e_bl, e_bu, Int.reduceLE, Int.reduceLT, Int.reduceEq, Int.reduceNeg, Int.reduceAdd, Int.reduceSub, Int.reduceMul, Nat.reduceLeDiff, Nat.reduceLT, Nat.reduceAdd, Nat.reduceEqDiff, true_and, and_true, true_or, or_true, false_or, or_false, forall_const, not_true_eq_false, not_false_eq_true, true_implies, false_implies, implies_true, and_self, zero_ne_one, one_ne_zero, eq_self, reduceIte, s_X10_status_0, b_X10_status_0, g_X10_62]
  exact h2
set_option maxRecDepth 100000 in
theorem C_X10_status {l : Launch} {ad : Int → Nat} {D : va_G} {cy : Nat → ClassId} {Z : State → Prop} (hZ : q_Zg ad Z) : q_Ct l q_T q_N ad D cy Z yX10_status cX10_status 1 (some .int) rm_X10_status sp_X10_status := by
  obtain ⟨hf, hg, hld⟩ := q_chkS k_X10_status
  refine q_met (rk := 0) q_wokT (by decide) rfl hf hg hld rfl (q_skS L_X10_status o_X10_status) ?_ ?_ ?_ ?_ B_X10_status
  · intro i hi; exact absurd hi List.not_mem_nil
  · intro i hi; exact absurd hi List.not_mem_nil
  · intro i hi; exact absurd hi List.not_mem_nil
  · intro i hi; exact absurd hi List.not_mem_nil
theorem rv_X10_status : q_rcv q_T yX10_status.cls sp_X10_status := by
  intro ra μ K h
  obtain ⟨this, rfl, h⟩ := sp_X10_status_i h
  obtain rfl := h.1
  exact ⟨[], 0, 10, _, _, rfl, T_0, rfl, rfl⟩
theorem cm_X10_status : Cond.code yX10_status cX10_status 1 (some .int) ∈ q_tb := by decide +kernel
def sp_X10_fault : QP := fun ra μ K => match ra with
  | [.inr (.inr this)] => this = 0 ∧ K (some (.inl (μ 0 7))) μ
  | _ => False
theorem sp_X10_fault_e (this : Int) (μ : QM) (K : Option QV → QM → Prop) : sp_X10_fault [.inr (.inr this)] μ K = (this = 0 ∧ K (some (.inl (μ 0 7))) μ) := propext Iff.rfl
theorem sp_X10_fault_i {ra : List QV} {μ : QM} {K : Option QV → QM → Prop} (h : sp_X10_fault ra μ K) : ∃ this : Int, ra = [.inr (.inr this)] ∧ (this = 0 ∧ K (some (.inl (μ 0 7))) μ) := by
  unfold sp_X10_fault at h
  split at h
  · exact ⟨_, rfl, h⟩
  · exact h.elim
def rm_X10_fault : Room := { frames := 0, cells := 0, slots := 0, locals := 0 }
def G_X10_fault : Nat → Nat × QP := fun i => match i with
  | _ => (0, fun _ _ _ => False)
set_option maxRecDepth 100000 in
set_option maxHeartbeats 4000000 in
theorem B_X10_fault : q_Body cX10_fault 1 u_X10_fault fl_X10 ld_X10 G_X10_fault q_T 0 s_X10_fault sp_X10_fault := by
  intro S Rt hR ra μ h
  obtain ⟨this, rfl, h⟩ := sp_X10_fault_i h
  refine ⟨by simp [q_sl, q_ct], ?_⟩
  show S 0 [some (.inr (.inr this))] [] μ
  obtain ⟨rfl, h2⟩ := h
  refine hR 40 [] 0 _ _ _ rfl ?_
  simp only [v_opt_n, v_opt_s, v_nil, v_iconst, v_bipush, v_sipush, v_lconst0, v_lconst1, v_ldc, v_ldcw, v_ldc2, v_iload0, v_iload1, v_iload2, v_iload3, v_iload, v_lload0, v_lload1, v_lload2, v_lload3, v_lload, v_aload0, v_aload1, v_aload2, v_aload3, v_aload, v_istore0, v_istore1, v_istore2, v_istore3, v_istore, v_lstore0, v_lstore1, v_lstore2, v_lstore3, v_lstore, v_astore0, v_astore1, v_astore2, v_astore3, v_astore, v_iinc, v_iadd, v_isub, v_imul, v_iand, v_ior, v_ixor, v_ishl, v_ishr, v_iushr, v_ineg, v_idiv, v_irem, v_ladd, v_lsub, v_lmul, v_lcmp, v_i2l, v_l2i, v_i2c, v_dup, v_dup2, v_if_eq, v_if_ne, v_if_lt, v_if_ge, v_if_gt, v_if_le, v_ic_eq, v_ic_ne, v_ic_lt, v_ic_ge, v_ic_gt, v_ic_le, v_goto, v_tsw, v_lsw, v_ireturn, v_areturn, v_return, v_iaload, v_laload, v_baload, v_caload, v_aaload, v_iastore, v_lastore, v_bastore, v_castore, v_alen, v_invvi, v_invst, v_invsp, e_int, e_lng, e_ref, e_lg0, e_lg1, e_lg2, e_lg3, e_lg4, e_lg5, e_lg6, e_lg7, e_lg8, e_lg9, e_lg10, e_lg11, e_lg12, e_lg13, e_clrI, e_clrJ, e_clrP, e_clrN, e_s0, e_s1, e_s2, e_s3, e_s4, e_s5, e_s6, e_s7, e_s8, e_s9, e_s10, e_s11, e_s12, e_s13, e_t0, e_t1, e_t2, e_t3, e_t4, e_t5, e_t6, e_t7, e_t8, e_t9, e_t10, e_t11, e_t12, e_t13, e_fd, e_kk, e_k0, e_k1, e_k2, e_k3, e_k4, e_k5, e_k6, e_k7, e_k8, e_k9, e_sv0, e_sv1, e_sv2, e_sv3, e_svc, e_pf0, e_pf1, e_pf2, e_pf3, e_ar, e_aa, e_al, e_sw1, e_sw2, e_ct0, e_ct1, e_ct2, e_cat0, e_cat1, e_rk0, e_rk1, e_rk2, e_inv0, e_inv1, e_inv2, e_inv3, e_inv4, e_inv5, e_inv6, e_o0, e_o1, e_cl, e_cle, e_cg, e_cge, e_ce, e_cr1, e_cr2, e_r, e_R, e_up, Int.cast_ofNat_Int, u_app, false_and, and_false, e_b0, e_b1, e_bn, e_bl, e_bu, Int.reduceLE, Int.reduceLT, Int.reduceEq, Int.reduceNeg, Int.reduceAdd, Int.reduceSub, Int.reduceMul, Nat.reduceLeDiff, Nat.reduceLT, Nat.reduceAdd, Nat.reduceEqDiff, true_and, and_true, true_or, or_true, false_or, or_false, forall_const, not_true_eq_false, not_false_eq_true, true_implies, false_implies, implies_true, and_self, zero_ne_one, one_ne_zero, eq_self, reduceIte, s_X10_fault_0, b_X10_fault_0, g_X10_58]
  exact h2
set_option maxRecDepth 100000 in
theorem C_X10_fault {l : Launch} {ad : Int → Nat} {D : va_G} {cy : Nat → ClassId} {Z : State → Prop} (hZ : q_Zg ad Z) : q_Ct l q_T q_N ad D cy Z yX10_fault cX10_fault 1 (some .int) rm_X10_fault sp_X10_fault := by
  obtain ⟨hf, hg, hld⟩ := q_chkS k_X10_fault
  refine q_met (rk := 0) q_wokT (by decide) rfl hf hg hld rfl (q_skS L_X10_fault o_X10_fault) ?_ ?_ ?_ ?_ B_X10_fault
  · intro i hi; exact absurd hi List.not_mem_nil
  · intro i hi; exact absurd hi List.not_mem_nil
  · intro i hi; exact absurd hi List.not_mem_nil
  · intro i hi; exact absurd hi List.not_mem_nil
theorem rv_X10_fault : q_rcv q_T yX10_fault.cls sp_X10_fault := by
  intro ra μ K h
  obtain ⟨this, rfl, h⟩ := sp_X10_fault_i h
  obtain rfl := h.1
  exact ⟨[], 0, 10, _, _, rfl, T_0, rfl, rfl⟩
theorem cm_X10_fault : Cond.code yX10_fault cX10_fault 1 (some .int) ∈ q_tb := by decide +kernel
def sp_X10_made : QP := fun ra μ K => match ra with
  | [.inr (.inr this)] => this = 0 ∧ K (some (.inl (μ 20 6))) μ
  | _ => False
theorem sp_X10_made_e (this : Int) (μ : QM) (K : Option QV → QM → Prop) : sp_X10_made [.inr (.inr this)] μ K = (this = 0 ∧ K (some (.inl (μ 20 6))) μ) := propext Iff.rfl
theorem sp_X10_made_i {ra : List QV} {μ : QM} {K : Option QV → QM → Prop} (h : sp_X10_made ra μ K) : ∃ this : Int, ra = [.inr (.inr this)] ∧ (this = 0 ∧ K (some (.inl (μ 20 6))) μ) := by
  unfold sp_X10_made at h
  split at h
  · exact ⟨_, rfl, h⟩
  · exact h.elim
def rm_X10_made : Room := { frames := 0, cells := 0, slots := 0, locals := 0 }
def G_X10_made : Nat → Nat × QP := fun i => match i with
  | _ => (0, fun _ _ _ => False)
set_option maxRecDepth 100000 in
set_option maxHeartbeats 4000000 in
theorem B_X10_made : q_Body cX10_made 1 u_X10_made fl_X10 ld_X10 G_X10_made q_T 0 s_X10_made sp_X10_made := by
  intro S Rt hR ra μ h
  obtain ⟨this, rfl, h⟩ := sp_X10_made_i h
  refine ⟨by simp [q_sl, q_ct], ?_⟩
  show S 0 [some (.inr (.inr this))] [] μ
  obtain ⟨rfl, h2⟩ := h
  refine hR 40 [] 0 _ _ _ rfl ?_
  simp only [v_opt_n, v_opt_s, v_nil, v_iconst, v_bipush, v_sipush, v_lconst0, v_lconst1, v_ldc, v_ldcw, v_ldc2, v_iload0, v_iload1, v_iload2, v_iload3, v_iload, v_lload0, v_lload1, v_lload2, v_lload3, v_lload, v_aload0, v_aload1, v_aload2, v_aload3, v_aload, v_istore0, v_istore1, v_istore2, v_istore3, v_istore, v_lstore0, v_lstore1, v_lstore2, v_lstore3, v_lstore, v_astore0, v_astore1, v_astore2, v_astore3, v_astore, v_iinc, v_iadd, v_isub, v_imul, v_iand, v_ior, v_ixor, v_ishl, v_ishr, v_iushr, v_ineg, v_idiv, v_irem, v_ladd, v_lsub, v_lmul, v_lcmp, v_i2l, v_l2i, v_i2c, v_dup, v_dup2, v_if_eq, v_if_ne, v_if_lt, v_if_ge, v_if_gt, v_if_le, v_ic_eq, v_ic_ne, v_ic_lt, v_ic_ge, v_ic_gt, v_ic_le, v_goto, v_tsw, v_lsw, v_ireturn, v_areturn, v_return, v_iaload, v_laload, v_baload, v_caload, v_aaload, v_iastore, v_lastore, v_bastore, v_castore, v_alen, v_invvi, v_invst, v_invsp, e_int, e_lng, e_ref, e_lg0, e_lg1, e_lg2, e_lg3, e_lg4, e_lg5, e_lg6, e_lg7, e_lg8, e_lg9, e_lg10, e_lg11, e_lg12, e_lg13, e_clrI, e_clrJ, e_clrP, e_clrN, e_s0, e_s1, e_s2, e_s3, e_s4, e_s5, e_s6, e_s7, e_s8, e_s9, e_s10, e_s11, e_s12, e_s13, e_t0, e_t1, e_t2, e_t3, e_t4, e_t5, e_t6, e_t7, e_t8, e_t9, e_t10, e_t11, e_t12, e_t13, e_fd, e_kk, e_k0, e_k1, e_k2, e_k3, e_k4, e_k5, e_k6, e_k7, e_k8, e_k9, e_sv0, e_sv1, e_sv2, e_sv3, e_svc, e_pf0, e_pf1, e_pf2, e_pf3, e_ar, e_aa, e_al, e_sw1, e_sw2, e_ct0, e_ct1, e_ct2, e_cat0, e_cat1, e_rk0, e_rk1, e_rk2, e_inv0, e_inv1, e_inv2, e_inv3, e_inv4, e_inv5, e_inv6, e_o0, e_o1, e_cl, e_cle, e_cg, e_cge, e_ce, e_cr1, e_cr2, e_r, e_R, e_up, Int.cast_ofNat_Int, u_app, false_and, and_false, e_b0, e_b1, e_bn, e_bl, e_bu, Int.reduceLE, Int.reduceLT, Int.reduceEq, Int.reduceNeg, Int.reduceAdd, Int.reduceSub, Int.reduceMul, Nat.reduceLeDiff, Nat.reduceLT, Nat.reduceAdd, Nat.reduceEqDiff, true_and, and_true, true_or, or_true, false_or, or_false, forall_const, not_true_eq_false, not_false_eq_true, true_implies, false_implies, implies_true, and_self, zero_ne_one, one_ne_zero, eq_self, reduceIte, s_X10_made_0, b_X10_made_0, g_X10_54, g_X10_148]
  exact h2
set_option maxRecDepth 100000 in
theorem C_X10_made {l : Launch} {ad : Int → Nat} {D : va_G} {cy : Nat → ClassId} {Z : State → Prop} (hZ : q_Zg ad Z) : q_Ct l q_T q_N ad D cy Z yX10_made cX10_made 1 (some .int) rm_X10_made sp_X10_made := by
  obtain ⟨hf, hg, hld⟩ := q_chkS k_X10_made
  refine q_met (rk := 0) q_wokT (by decide) rfl hf hg hld rfl (q_skS L_X10_made o_X10_made) ?_ ?_ ?_ ?_ B_X10_made
  · intro i hi; exact absurd hi List.not_mem_nil
  · intro i hi; exact absurd hi List.not_mem_nil
  · intro i hi; exact absurd hi List.not_mem_nil
  · intro i hi; exact absurd hi List.not_mem_nil
theorem rv_X10_made : q_rcv q_T yX10_made.cls sp_X10_made := by
  intro ra μ K h
  obtain ⟨this, rfl, h⟩ := sp_X10_made_i h
  obtain rfl := h.1
  exact ⟨[], 0, 10, _, _, rfl, T_0, rfl, rfl⟩
theorem cm_X10_made : Cond.code yX10_made cX10_made 1 (some .int) ∈ q_tb := by decide +kernel
def sp_X10_end : QP := fun ra μ K => match ra with
  | [.inl n, .inr (.inr this)] => this = 0 ∧ (q_r n ∧ q_r (μ 13 1)) ∧ (if 0 ≤ n ∧ n ≤ μ 13 1 then K (some (.inl n)) (q_up μ 13 1 n) else K (some (.inl (-1))) μ)
  | _ => False
theorem sp_X10_end_e (this n : Int) (μ : QM) (K : Option QV → QM → Prop) : sp_X10_end [.inl n, .inr (.inr this)] μ K = (this = 0 ∧ (q_r n ∧ q_r (μ 13 1)) ∧ (if 0 ≤ n ∧ n ≤ μ 13 1 then K (some (.inl n)) (q_up μ 13 1 n) else K (some (.inl (-1))) μ)) := propext Iff.rfl
theorem sp_X10_end_i {ra : List QV} {μ : QM} {K : Option QV → QM → Prop} (h : sp_X10_end ra μ K) : ∃ this n : Int, ra = [.inl n, .inr (.inr this)] ∧ (this = 0 ∧ (q_r n ∧ q_r (μ 13 1)) ∧ (if 0 ≤ n ∧ n ≤ μ 13 1 then K (some (.inl n)) (q_up μ 13 1 n) else K (some (.inl (-1))) μ)) := by
  unfold sp_X10_end at h
  split at h
  · exact ⟨_, _, rfl, h⟩
  · exact h.elim
def rm_X10_end : Room := { frames := 0, cells := 0, slots := 0, locals := 0 }
def G_X10_end : Nat → Nat × QP := fun i => match i with
  | _ => (0, fun _ _ _ => False)
set_option maxRecDepth 100000 in
set_option maxHeartbeats 4000000 in
theorem B_X10_end : q_Body cX10_end 2 u_X10_end fl_X10 ld_X10 G_X10_end q_T 0 s_X10_end sp_X10_end := by
  intro S Rt hR ra μ h
  obtain ⟨this, n, rfl, h⟩ := sp_X10_end_i h
  refine ⟨by simp [q_sl, q_ct], ?_⟩
  show S 0 [some (.inr (.inr this)), some (.inl n)] [] μ
  obtain ⟨rfl, h1, h2⟩ := h
  refine hR 40 [] 0 _ _ _ rfl ?_
  simp only [v_opt_n, v_opt_s, v_nil, v_iconst, v_bipush, v_sipush, v_lconst0, v_lconst1, v_ldc, v_ldcw, v_ldc2, v_iload0, v_iload1, v_iload2, v_iload3, v_iload, v_lload0, v_lload1, v_lload2, v_lload3, v_lload, v_aload0, v_aload1, v_aload2, v_aload3, v_aload, v_istore0, v_istore1, v_istore2, v_istore3, v_istore, v_lstore0, v_lstore1, v_lstore2, v_lstore3, v_lstore, v_astore0, v_astore1, v_astore2, v_astore3, v_astore, v_iinc, v_iadd, v_isub, v_imul, v_iand, v_ior, v_ixor, v_ishl, v_ishr, v_iushr, v_ineg, v_idiv, v_irem, v_ladd, v_lsub, v_lmul, v_lcmp, v_i2l, v_l2i, v_i2c, v_dup, v_dup2, v_if_eq, v_if_ne, v_if_lt, v_if_ge, v_if_gt, v_if_le, v_ic_eq, v_ic_ne, v_ic_lt, v_ic_ge, v_ic_gt, v_ic_le, v_goto, v_tsw, v_lsw, v_ireturn, v_areturn, v_return, v_iaload, v_laload, v_baload, v_caload, v_aaload, v_iastore, v_lastore, v_bastore, v_castore, v_alen, v_invvi, v_invst, v_invsp, e_int, e_lng, e_ref, e_lg0, e_lg1, e_lg2, e_lg3, e_lg4, e_lg5, e_lg6, e_lg7, e_lg8, e_lg9, e_lg10, e_lg11, e_lg12, e_lg13, e_clrI, e_clrJ, e_clrP, e_clrN, e_s0, e_s1, e_s2, e_s3, e_s4, e_s5, e_s6, e_s7, e_s8, e_s9, e_s10, e_s11, e_s12, e_s13, e_t0, e_t1, e_t2, e_t3, e_t4, e_t5, e_t6, e_t7, e_t8, e_t9, e_t10, e_t11, e_t12, e_t13, e_fd, e_kk, e_k0, e_k1, e_k2, e_k3, e_k4, e_k5, e_k6, e_k7, e_k8, e_k9, e_sv0, e_sv1, e_sv2, e_sv3, e_svc, e_pf0, e_pf1, e_pf2, e_pf3, e_ar, e_aa, e_al, e_sw1, e_sw2, e_ct0, e_ct1, e_ct2, e_cat0, e_cat1, e_rk0, e_rk1, e_rk2, e_inv0, e_inv1, e_inv2, e_inv3, e_inv4, e_inv5, e_inv6, e_o0, e_o1, e_cl, e_cle, e_cg, e_cge, e_ce, e_cr1, e_cr2, e_r, e_R, e_up, Int.cast_ofNat_Int, u_app, false_and, and_false, e_b0, e_b1, e_bn, e_bl, e_bu, Int.reduceLE, Int.reduceLT, Int.reduceEq, Int.reduceNeg, Int.reduceAdd, Int.reduceSub, Int.reduceMul, Nat.reduceLeDiff, Nat.reduceLT, Nat.reduceAdd, Nat.reduceEqDiff, true_and, and_true, true_or, or_true, false_or, or_false, forall_const, not_true_eq_false, not_false_eq_true, true_implies, false_implies, implies_true, and_self, zero_ne_one, one_ne_zero, eq_self, reduceIte, s_X10_end_0, b_X10_end_0, s_X10_end_4, b_X10_end_4, s_X10_end_15, b_X10_end_15, s_X10_end_17, b_X10_end_17, g_X10_26, g_X10_114, p_X10_114]
  split at h2 <;> (repeat' (first | assumption | (refine And.intro ?_ ?_) | (intro _))) <;> first | omega | (exfalso; omega)
set_option maxRecDepth 100000 in
theorem C_X10_end {l : Launch} {ad : Int → Nat} {D : va_G} {cy : Nat → ClassId} {Z : State → Prop} (hZ : q_Zg ad Z) : q_Ct l q_T q_N ad D cy Z yX10_end cX10_end 2 (some .int) rm_X10_end sp_X10_end := by
  obtain ⟨hf, hg, hld⟩ := q_chkS k_X10_end
  refine q_met (rk := 0) q_wokT (by decide) rfl hf hg hld rfl (q_skS L_X10_end o_X10_end) ?_ ?_ ?_ ?_ B_X10_end
  · intro i hi; exact absurd hi List.not_mem_nil
  · intro i hi; exact absurd hi List.not_mem_nil
  · intro i hi; exact absurd hi List.not_mem_nil
  · intro i hi; exact absurd hi List.not_mem_nil
theorem rv_X10_end : q_rcv q_T yX10_end.cls sp_X10_end := by
  intro ra μ K h
  obtain ⟨this, n, rfl, h⟩ := sp_X10_end_i h
  obtain rfl := h.1
  exact ⟨[.inl n], 0, 10, _, _, rfl, T_0, rfl, rfl⟩
theorem cm_X10_end : Cond.code yX10_end cX10_end 2 (some .int) ∈ q_tb := by decide +kernel
def sp_J9_min_7cf53 : QP := fun ra μ K => match ra with
  | [.inl b, .inl a] => (q_r a ∧ q_r b) ∧ K (some (.inl (if a ≤ b then a else b))) μ
  | _ => False
theorem sp_J9_min_7cf53_e (a b : Int) (μ : QM) (K : Option QV → QM → Prop) : sp_J9_min_7cf53 [.inl b, .inl a] μ K = ((q_r a ∧ q_r b) ∧ K (some (.inl (if a ≤ b then a else b))) μ) := propext Iff.rfl
theorem sp_J9_min_7cf53_i {ra : List QV} {μ : QM} {K : Option QV → QM → Prop} (h : sp_J9_min_7cf53 ra μ K) : ∃ a b : Int, ra = [.inl b, .inl a] ∧ ((q_r a ∧ q_r b) ∧ K (some (.inl (if a ≤ b then a else b))) μ) := by
  unfold sp_J9_min_7cf53 at h
  split at h
  · exact ⟨_, _, rfl, h⟩
  · exact h.elim
def sp_J9_max_7cf53 : QP := fun ra μ K => match ra with
  | [.inl b, .inl a] => (q_r a ∧ q_r b) ∧ K (some (.inl (if b ≤ a then a else b))) μ
  | _ => False
theorem sp_J9_max_7cf53_e (a b : Int) (μ : QM) (K : Option QV → QM → Prop) : sp_J9_max_7cf53 [.inl b, .inl a] μ K = ((q_r a ∧ q_r b) ∧ K (some (.inl (if b ≤ a then a else b))) μ) := propext Iff.rfl
theorem sp_J9_max_7cf53_i {ra : List QV} {μ : QM} {K : Option QV → QM → Prop} (h : sp_J9_max_7cf53 ra μ K) : ∃ a b : Int, ra = [.inl b, .inl a] ∧ ((q_r a ∧ q_r b) ∧ K (some (.inl (if b ≤ a then a else b))) μ) := by
  unfold sp_J9_max_7cf53 at h
  split at h
  · exact ⟨_, _, rfl, h⟩
  · exact h.elim
section QMM
variable {l : Launch} {ad : Int → Nat} {D : va_G} {cy : Nat → ClassId} {Z : State → Prop}
theorem q_take2 {st r : List QV} {n : Nat} (h : st.take n = r) : st = r ++ st.drop n := by rw [← h, List.take_append_drop]
theorem q_crMin {own : String} {cc : ByteArray} {nL i : Nat} {R : Room} (h1 : Cond.methodLink own i Lib.Math.min.name ∈ q_tb) (hR : 1 ≤ R.frames ∧ 21 ≤ R.locals) : q_CR l q_T q_N ad D cy Z own cc nL R (2, sp_J9_min_7cf53) (.invokestatic i) := by
  intro Rt p e s m args below meth c F hml hZ pc ls st μ K hdg hlen hcat hsp hk hn H locs la hP hD hS hl
  have hts := F.2.2.2.1
  obtain ⟨a, b, e1, ⟨ha, hb⟩, hK⟩ := sp_J9_min_7cf53_i hsp
  have e2 := q_take2 e1
  have hcat : q_cats (st.drop 2) ≤ 8 := hcat
  have hlv : (((st.drop 2).map (q_cv ad)).map fun v => v.category).sum ≤ 8 := by
    have := q_roomS (ad := ad) (m := m) (pc := pc) (la := la) (x := []) hcat
    have e9 : (F0 m pc la []).monitorRoom = 0 := rfl
    omega
  rw [e2]
  refine va_mmin (cc := cc) (own := own) (index := i) (rest := (st.drop 2).map (q_cv ad)) (x := Int32.ofInt a) (y := Int32.ofInt b) F.1 F.2.1 (by rw [hml, ← hl.1]) F.2.2.1 (hts _ h1) (hts _ (by decide +kernel)) (hts _ (by decide +kernel)) (hts _ (by decide +kernel)) (by omega) (by omega) (Nat.zero_le _) (Nat.zero_le _) hdg ?_
  have := hk _ _ hK hn H locs la hP hD hS hl
  have e3 : (if Int32.ofInt b < Int32.ofInt a then Int32.ofInt b else Int32.ofInt a) = Int32.ofInt (if a ≤ b then a else b) := by
    by_cases c : b < a
    · rw [if_pos ((q_lt hb ha).mpr c), if_neg (by omega)]
    · rw [if_neg (fun q => c ((q_lt hb ha).mp q)), if_pos (by omega)]
  rw [e3]
  exact this
theorem q_crMax {own : String} {cc : ByteArray} {nL i : Nat} {R : Room} (h1 : Cond.methodLink own i Lib.Math.max.name ∈ q_tb) (hR : 1 ≤ R.frames ∧ 21 ≤ R.locals) : q_CR l q_T q_N ad D cy Z own cc nL R (2, sp_J9_max_7cf53) (.invokestatic i) := by
  intro Rt p e s m args below meth c F hml hZ pc ls st μ K hdg hlen hcat hsp hk hn H locs la hP hD hS hl
  have hts := F.2.2.2.1
  obtain ⟨a, b, e1, ⟨ha, hb⟩, hK⟩ := sp_J9_max_7cf53_i hsp
  have e2 := q_take2 e1
  have hcat : q_cats (st.drop 2) ≤ 8 := hcat
  have hlv : (((st.drop 2).map (q_cv ad)).map fun v => v.category).sum ≤ 8 := by
    have := q_roomS (ad := ad) (m := m) (pc := pc) (la := la) (x := []) hcat
    have e9 : (F0 m pc la []).monitorRoom = 0 := rfl
    omega
  rw [e2]
  refine va_mmax (cc := cc) (own := own) (index := i) (rest := (st.drop 2).map (q_cv ad)) (x := Int32.ofInt a) (y := Int32.ofInt b) F.1 F.2.1 (by rw [hml, ← hl.1]) F.2.2.1 (hts _ h1) (hts _ (by decide +kernel)) (hts _ (by decide +kernel)) (hts _ (by decide +kernel)) (by omega) (by omega) (Nat.zero_le _) (Nat.zero_le _) hdg ?_
  have := hk _ _ hK hn H locs la hP hD hS hl
  have e3 : (if Int32.ofInt a < Int32.ofInt b then Int32.ofInt b else Int32.ofInt a) = Int32.ofInt (if b ≤ a then a else b) := by
    by_cases c : a < b
    · rw [if_pos ((q_lt ha hb).mpr c), if_neg (by omega)]
    · rw [if_neg (fun q => c ((q_lt ha hb).mp q)), if_pos (by omega)]
  rw [e3]
  exact this
end QMM
def sp_X0_hasTile : QP := fun ra μ K => match ra with
  | [.inl tile, .inr (.inr this)] => this = 1 ∧ q_r tile ∧ q_mk (μ 1 2) ∧ K (some (.inl (q_b (0 ≤ tile ∧ tile < 9 ∧ q_bit (μ 1 2) tile.toNat = true)))) μ
  | _ => False
theorem sp_X0_hasTile_e (this tile : Int) (μ : QM) (K : Option QV → QM → Prop) : sp_X0_hasTile [.inl tile, .inr (.inr this)] μ K = (this = 1 ∧ q_r tile ∧ q_mk (μ 1 2) ∧ K (some (.inl (q_b (0 ≤ tile ∧ tile < 9 ∧ q_bit (μ 1 2) tile.toNat = true)))) μ) := propext Iff.rfl
theorem sp_X0_hasTile_i {ra : List QV} {μ : QM} {K : Option QV → QM → Prop} (h : sp_X0_hasTile ra μ K) : ∃ this tile : Int, ra = [.inl tile, .inr (.inr this)] ∧ (this = 1 ∧ q_r tile ∧ q_mk (μ 1 2) ∧ K (some (.inl (q_b (0 ≤ tile ∧ tile < 9 ∧ q_bit (μ 1 2) tile.toNat = true)))) μ) := by
  unfold sp_X0_hasTile at h
  split at h
  · exact ⟨_, _, rfl, h⟩
  · exact h.elim
def rm_X0_hasTile : Room := { frames := 0, cells := 0, slots := 0, locals := 0 }
def G_X0_hasTile : Nat → Nat × QP := fun i => match i with
  | _ => (0, fun _ _ _ => False)
set_option maxRecDepth 100000 in
set_option maxHeartbeats 4000000 in
theorem B_X0_hasTile : q_Body cX0_hasTile 2 u_X0_hasTile fl_X0 ld_X0 G_X0_hasTile q_T 1 s_X0_hasTile sp_X0_hasTile := by
  intro S Rt hR ra μ h
  obtain ⟨this, tile, rfl, h⟩ := sp_X0_hasTile_i h
  refine ⟨by simp [q_sl, q_ct], ?_⟩
  show S 0 [some (.inr (.inr this)), some (.inl tile)] [] μ
  obtain ⟨rfl, h1, h2, h3⟩ := h
  have n1 := q_mk_nn h2
  have n2 := q_mk_le h2
  refine hR 40 [] 0 _ _ _ rfl ?_
  simp only [v_opt_n, v_opt_s, v_nil, v_iconst, v_bipush, v_sipush, v_lconst0, v_lconst1, v_ldc, v_ldcw, v_ldc2, v_iload0, v_iload1, v_iload2, v_iload3, v_iload, v_lload0, v_lload1, v_lload2, v_lload3, v_lload, v_aload0, v_aload1, v_aload2, v_aload3, v_aload, v_istore0, v_istore1, v_istore2, v_istore3, v_istore, v_lstore0, v_lstore1, v_lstore2, v_lstore3, v_lstore, v_astore0, v_astore1, v_astore2, v_astore3, v_astore, v_iinc, v_iadd, v_isub, v_imul, v_iand, v_ior, v_ixor, v_ishl, v_ishr, v_iushr, v_ineg, v_idiv, v_irem, v_ladd, v_lsub, v_lmul, v_lcmp, v_i2l, v_l2i, v_i2c, v_dup, v_dup2, v_if_eq, v_if_ne, v_if_lt, v_if_ge, v_if_gt, v_if_le, v_ic_eq, v_ic_ne, v_ic_lt, v_ic_ge, v_ic_gt, v_ic_le, v_goto, v_tsw, v_lsw, v_ireturn, v_areturn, v_return, v_iaload, v_laload, v_baload, v_caload, v_aaload, v_iastore, v_lastore, v_bastore, v_castore, v_alen, v_invvi, v_invst, v_invsp, e_int, e_lng, e_ref, e_lg0, e_lg1, e_lg2, e_lg3, e_lg4, e_lg5, e_lg6, e_lg7, e_lg8, e_lg9, e_lg10, e_lg11, e_lg12, e_lg13, e_clrI, e_clrJ, e_clrP, e_clrN, e_s0, e_s1, e_s2, e_s3, e_s4, e_s5, e_s6, e_s7, e_s8, e_s9, e_s10, e_s11, e_s12, e_s13, e_t0, e_t1, e_t2, e_t3, e_t4, e_t5, e_t6, e_t7, e_t8, e_t9, e_t10, e_t11, e_t12, e_t13, e_fd, e_kk, e_k0, e_k1, e_k2, e_k3, e_k4, e_k5, e_k6, e_k7, e_k8, e_k9, e_sv0, e_sv1, e_sv2, e_sv3, e_svc, e_pf0, e_pf1, e_pf2, e_pf3, e_ar, e_aa, e_al, e_sw1, e_sw2, e_ct0, e_ct1, e_ct2, e_cat0, e_cat1, e_rk0, e_rk1, e_rk2, e_inv0, e_inv1, e_inv2, e_inv3, e_inv4, e_inv5, e_inv6, e_o0, e_o1, e_cl, e_cle, e_cg, e_cge, e_ce, e_cr1, e_cr2, e_r, e_R, e_up, Int.cast_ofNat_Int, u_app, false_and, and_false, e_b0, e_b1, e_bn, e_bl, e_bu, Int.reduceLE, Int.reduceLT, Int.reduceEq, Int.reduceNeg, Int.reduceAdd, Int.reduceSub, Int.reduceMul, Nat.reduceLeDiff, Nat.reduceLT, Nat.reduceAdd, Nat.reduceEqDiff, true_and, and_true, true_or, or_true, false_or, or_false, forall_const, not_true_eq_false, not_false_eq_true, true_implies, false_implies, implies_true, and_self, zero_ne_one, one_ne_zero, eq_self, reduceIte, s_X0_hasTile_0, b_X0_hasTile_0, s_X0_hasTile_4, b_X0_hasTile_4, s_X0_hasTile_10, b_X0_hasTile_10, s_X0_hasTile_21, b_X0_hasTile_21, s_X0_hasTile_25, b_X0_hasTile_25, s_X0_hasTile_26, b_X0_hasTile_26, g_X0_22]
  refine ⟨h1, fun c => ?_, fun c => ⟨h1, fun c1 => ?_, fun c1 => ?_⟩⟩
  · rw [q_bf (by omega)] at h3
    exact h3
  · rw [q_bf (by omega)] at h3
    exact h3
  · have e := bt_get n1 n2 (show 0 ≤ tile by omega) (by omega)
    rw [e]
    refine ⟨by unfold q_b; split <;> omega, fun c2 => ?_, fun c2 => ?_⟩
    · rw [e_b0] at c2
      rw [q_bf (fun q => c2 q.2.2)] at h3
      exact h3
    · rw [e_b0] at c2
      rw [q_bt ⟨by omega, by omega, Classical.not_not.mp c2⟩] at h3
      exact h3
set_option maxRecDepth 100000 in
theorem C_X0_hasTile {l : Launch} {ad : Int → Nat} {D : va_G} {cy : Nat → ClassId} {Z : State → Prop} (hZ : q_Zg ad Z) : q_Ct l q_T q_N ad D cy Z yX0_hasTile cX0_hasTile 2 (some .boolean) rm_X0_hasTile sp_X0_hasTile := by
  obtain ⟨hf, hg, hld⟩ := q_chkS k_X0_hasTile
  refine q_met (rk := 1) q_wokT (by decide) rfl hf hg hld rfl (q_skS L_X0_hasTile o_X0_hasTile) ?_ ?_ ?_ ?_ B_X0_hasTile
  · intro i hi; exact absurd hi List.not_mem_nil
  · intro i hi; exact absurd hi List.not_mem_nil
  · intro i hi; exact absurd hi List.not_mem_nil
  · intro i hi; exact absurd hi List.not_mem_nil
theorem rv_X0_hasTile : q_rcv q_T yX0_hasTile.cls sp_X0_hasTile := by
  intro ra μ K h
  obtain ⟨this, tile, rfl, h⟩ := sp_X0_hasTile_i h
  obtain rfl := h.1
  exact ⟨[.inl tile], 1, 0, _, _, rfl, T_1, rfl, rfl⟩
theorem cm_X0_hasTile : Cond.code yX0_hasTile cX0_hasTile 2 (some .boolean) ∈ q_tb := by decide +kernel
def sp_X0_leftOf : QP := fun ra μ K => match ra with
  | [.inl tile, .inr (.inr this)] => this = 1 ∧ (0 ≤ tile ∧ tile < 9) ∧ K (some (.inl (tile % 3 * 4))) μ
  | _ => False
theorem sp_X0_leftOf_e (this tile : Int) (μ : QM) (K : Option QV → QM → Prop) : sp_X0_leftOf [.inl tile, .inr (.inr this)] μ K = (this = 1 ∧ (0 ≤ tile ∧ tile < 9) ∧ K (some (.inl (tile % 3 * 4))) μ) := propext Iff.rfl
theorem sp_X0_leftOf_i {ra : List QV} {μ : QM} {K : Option QV → QM → Prop} (h : sp_X0_leftOf ra μ K) : ∃ this tile : Int, ra = [.inl tile, .inr (.inr this)] ∧ (this = 1 ∧ (0 ≤ tile ∧ tile < 9) ∧ K (some (.inl (tile % 3 * 4))) μ) := by
  unfold sp_X0_leftOf at h
  split at h
  · exact ⟨_, _, rfl, h⟩
  · exact h.elim
def rm_X0_leftOf : Room := { frames := 0, cells := 0, slots := 0, locals := 0 }
def G_X0_leftOf : Nat → Nat × QP := fun i => match i with
  | _ => (0, fun _ _ _ => False)
set_option maxRecDepth 100000 in
set_option maxHeartbeats 4000000 in
theorem B_X0_leftOf : q_Body cX0_leftOf 2 u_X0_leftOf fl_X0 ld_X0 G_X0_leftOf q_T 0 s_X0_leftOf sp_X0_leftOf := by
  intro S Rt hR ra μ h
  obtain ⟨this, tile, rfl, h⟩ := sp_X0_leftOf_i h
  refine ⟨by simp [q_sl, q_ct], ?_⟩
  show S 0 [some (.inr (.inr this)), some (.inl tile)] [] μ
  obtain ⟨rfl, h1, h2⟩ := h
  refine hR 40 [] 0 _ _ _ rfl ?_
  simp only [v_opt_n, v_opt_s, v_nil, v_iconst, v_bipush, v_sipush, v_lconst0, v_lconst1, v_ldc, v_ldcw, v_ldc2, v_iload0, v_iload1, v_iload2, v_iload3, v_iload, v_lload0, v_lload1, v_lload2, v_lload3, v_lload, v_aload0, v_aload1, v_aload2, v_aload3, v_aload, v_istore0, v_istore1, v_istore2, v_istore3, v_istore, v_lstore0, v_lstore1, v_lstore2, v_lstore3, v_lstore, v_astore0, v_astore1, v_astore2, v_astore3, v_astore, v_iinc, v_iadd, v_isub, v_imul, v_iand, v_ior, v_ixor, v_ishl, v_ishr, v_iushr, v_ineg, v_idiv, v_irem, v_ladd, v_lsub, v_lmul, v_lcmp, v_i2l, v_l2i, v_i2c, v_dup, v_dup2, v_if_eq, v_if_ne, v_if_lt, v_if_ge, v_if_gt, v_if_le, v_ic_eq, v_ic_ne, v_ic_lt, v_ic_ge, v_ic_gt, v_ic_le, v_goto, v_tsw, v_lsw, v_ireturn, v_areturn, v_return, v_iaload, v_laload, v_baload, v_caload, v_aaload, v_iastore, v_lastore, v_bastore, v_castore, v_alen, v_invvi, v_invst, v_invsp, e_int, e_lng, e_ref, e_lg0, e_lg1, e_lg2, e_lg3, e_lg4, e_lg5, e_lg6, e_lg7, e_lg8, e_lg9, e_lg10, e_lg11, e_lg12, e_lg13, e_clrI, e_clrJ, e_clrP, e_clrN, e_s0, e_s1, e_s2, e_s3, e_s4, e_s5, e_s6, e_s7, e_s8, e_s9, e_s10, e_s11, e_s12, e_s13, e_t0, e_t1, e_t2, e_t3, e_t4, e_t5, e_t6, e_t7, e_t8, e_t9, e_t10, e_t11, e_t12, e_t13, e_fd, e_kk, e_k0, e_k1, e_k2, e_k3, e_k4, e_k5, e_k6, e_k7, e_k8, e_k9, e_sv0, e_sv1, e_sv2, e_sv3, e_svc, e_pf0, e_pf1, e_pf2, e_pf3, e_ar, e_aa, e_al, e_sw1, e_sw2, e_ct0, e_ct1, e_ct2, e_cat0, e_cat1, e_rk0, e_rk1, e_rk2, e_inv0, e_inv1, e_inv2, e_inv3, e_inv4, e_inv5, e_inv6, e_o0, e_o1, e_cl, e_cle, e_cg, e_cge, e_ce, e_cr1, e_cr2, e_r, e_R, e_up, Int.cast_ofNat_Int, u_app, false_and, and_false, e_b0, e_b1, e_bn, e_bl, e_bu, Int.reduceLE, Int.reduceLT, Int.reduceEq, Int.reduceNeg, Int.reduceAdd, Int.reduceSub, Int.reduceMul, Nat.reduceLeDiff, Nat.reduceLT, Nat.reduceAdd, Nat.reduceEqDiff, true_and, and_true, true_or, or_true, false_or, or_false, forall_const, not_true_eq_false, not_false_eq_true, true_implies, false_implies, implies_true, and_self, zero_ne_one, one_ne_zero, eq_self, reduceIte, s_X0_leftOf_0, b_X0_leftOf_0]
  exact ⟨by omega, h2⟩
set_option maxRecDepth 100000 in
theorem C_X0_leftOf {l : Launch} {ad : Int → Nat} {D : va_G} {cy : Nat → ClassId} {Z : State → Prop} (hZ : q_Zg ad Z) : q_Ct l q_T q_N ad D cy Z yX0_leftOf cX0_leftOf 2 (some .int) rm_X0_leftOf sp_X0_leftOf := by
  obtain ⟨hf, hg, hld⟩ := q_chkS k_X0_leftOf
  refine q_met (rk := 0) q_wokT (by decide) rfl hf hg hld rfl (q_skS L_X0_leftOf o_X0_leftOf) ?_ ?_ ?_ ?_ B_X0_leftOf
  · intro i hi; exact absurd hi List.not_mem_nil
  · intro i hi; exact absurd hi List.not_mem_nil
  · intro i hi; exact absurd hi List.not_mem_nil
  · intro i hi; exact absurd hi List.not_mem_nil
theorem rv_X0_leftOf : q_rcv q_T yX0_leftOf.cls sp_X0_leftOf := by
  intro ra μ K h
  obtain ⟨this, tile, rfl, h⟩ := sp_X0_leftOf_i h
  obtain rfl := h.1
  exact ⟨[.inl tile], 1, 0, _, _, rfl, T_1, rfl, rfl⟩
theorem cm_X0_leftOf : Cond.code yX0_leftOf cX0_leftOf 2 (some .int) ∈ q_tb := by decide +kernel
def sp_X0_bottomOf : QP := fun ra μ K => match ra with
  | [.inl tile, .inr (.inr this)] => this = 1 ∧ (0 ≤ tile ∧ tile < 9) ∧ K (some (.inl (tile / 3 * 4))) μ
  | _ => False
theorem sp_X0_bottomOf_e (this tile : Int) (μ : QM) (K : Option QV → QM → Prop) : sp_X0_bottomOf [.inl tile, .inr (.inr this)] μ K = (this = 1 ∧ (0 ≤ tile ∧ tile < 9) ∧ K (some (.inl (tile / 3 * 4))) μ) := propext Iff.rfl
theorem sp_X0_bottomOf_i {ra : List QV} {μ : QM} {K : Option QV → QM → Prop} (h : sp_X0_bottomOf ra μ K) : ∃ this tile : Int, ra = [.inl tile, .inr (.inr this)] ∧ (this = 1 ∧ (0 ≤ tile ∧ tile < 9) ∧ K (some (.inl (tile / 3 * 4))) μ) := by
  unfold sp_X0_bottomOf at h
  split at h
  · exact ⟨_, _, rfl, h⟩
  · exact h.elim
def rm_X0_bottomOf : Room := { frames := 0, cells := 0, slots := 0, locals := 0 }
def G_X0_bottomOf : Nat → Nat × QP := fun i => match i with
  | _ => (0, fun _ _ _ => False)
set_option maxRecDepth 100000 in
set_option maxHeartbeats 4000000 in
theorem B_X0_bottomOf : q_Body cX0_bottomOf 2 u_X0_bottomOf fl_X0 ld_X0 G_X0_bottomOf q_T 0 s_X0_bottomOf sp_X0_bottomOf := by
  intro S Rt hR ra μ h
  obtain ⟨this, tile, rfl, h⟩ := sp_X0_bottomOf_i h
  refine ⟨by simp [q_sl, q_ct], ?_⟩
  show S 0 [some (.inr (.inr this)), some (.inl tile)] [] μ
  obtain ⟨rfl, h1, h2⟩ := h
  refine hR 40 [] 0 _ _ _ rfl ?_
  simp only [v_opt_n, v_opt_s, v_nil, v_iconst, v_bipush, v_sipush, v_lconst0, v_lconst1, v_ldc, v_ldcw, v_ldc2, v_iload0, v_iload1, v_iload2, v_iload3, v_iload, v_lload0, v_lload1, v_lload2, v_lload3, v_lload, v_aload0, v_aload1, v_aload2, v_aload3, v_aload, v_istore0, v_istore1, v_istore2, v_istore3, v_istore, v_lstore0, v_lstore1, v_lstore2, v_lstore3, v_lstore, v_astore0, v_astore1, v_astore2, v_astore3, v_astore, v_iinc, v_iadd, v_isub, v_imul, v_iand, v_ior, v_ixor, v_ishl, v_ishr, v_iushr, v_ineg, v_idiv, v_irem, v_ladd, v_lsub, v_lmul, v_lcmp, v_i2l, v_l2i, v_i2c, v_dup, v_dup2, v_if_eq, v_if_ne, v_if_lt, v_if_ge, v_if_gt, v_if_le, v_ic_eq, v_ic_ne, v_ic_lt, v_ic_ge, v_ic_gt, v_ic_le, v_goto, v_tsw, v_lsw, v_ireturn, v_areturn, v_return, v_iaload, v_laload, v_baload, v_caload, v_aaload, v_iastore, v_lastore, v_bastore, v_castore, v_alen, v_invvi, v_invst, v_invsp, e_int, e_lng, e_ref, e_lg0, e_lg1, e_lg2, e_lg3, e_lg4, e_lg5, e_lg6, e_lg7, e_lg8, e_lg9, e_lg10, e_lg11, e_lg12, e_lg13, e_clrI, e_clrJ, e_clrP, e_clrN, e_s0, e_s1, e_s2, e_s3, e_s4, e_s5, e_s6, e_s7, e_s8, e_s9, e_s10, e_s11, e_s12, e_s13, e_t0, e_t1, e_t2, e_t3, e_t4, e_t5, e_t6, e_t7, e_t8, e_t9, e_t10, e_t11, e_t12, e_t13, e_fd, e_kk, e_k0, e_k1, e_k2, e_k3, e_k4, e_k5, e_k6, e_k7, e_k8, e_k9, e_sv0, e_sv1, e_sv2, e_sv3, e_svc, e_pf0, e_pf1, e_pf2, e_pf3, e_ar, e_aa, e_al, e_sw1, e_sw2, e_ct0, e_ct1, e_ct2, e_cat0, e_cat1, e_rk0, e_rk1, e_rk2, e_inv0, e_inv1, e_inv2, e_inv3, e_inv4, e_inv5, e_inv6, e_o0, e_o1, e_cl, e_cle, e_cg, e_cge, e_ce, e_cr1, e_cr2, e_r, e_R, e_up, Int.cast_ofNat_Int, u_app, false_and, and_false, e_b0, e_b1, e_bn, e_bl, e_bu, Int.reduceLE, Int.reduceLT, Int.reduceEq, Int.reduceNeg, Int.reduceAdd, Int.reduceSub, Int.reduceMul, Nat.reduceLeDiff, Nat.reduceLT, Nat.reduceAdd, Nat.reduceEqDiff, true_and, and_true, true_or, or_true, false_or, or_false, forall_const, not_true_eq_false, not_false_eq_true, true_implies, false_implies, implies_true, and_self, zero_ne_one, one_ne_zero, eq_self, reduceIte, s_X0_bottomOf_0, b_X0_bottomOf_0]
  exact ⟨by omega, h2⟩
set_option maxRecDepth 100000 in
theorem C_X0_bottomOf {l : Launch} {ad : Int → Nat} {D : va_G} {cy : Nat → ClassId} {Z : State → Prop} (hZ : q_Zg ad Z) : q_Ct l q_T q_N ad D cy Z yX0_bottomOf cX0_bottomOf 2 (some .int) rm_X0_bottomOf sp_X0_bottomOf := by
  obtain ⟨hf, hg, hld⟩ := q_chkS k_X0_bottomOf
  refine q_met (rk := 0) q_wokT (by decide) rfl hf hg hld rfl (q_skS L_X0_bottomOf o_X0_bottomOf) ?_ ?_ ?_ ?_ B_X0_bottomOf
  · intro i hi; exact absurd hi List.not_mem_nil
  · intro i hi; exact absurd hi List.not_mem_nil
  · intro i hi; exact absurd hi List.not_mem_nil
  · intro i hi; exact absurd hi List.not_mem_nil
theorem rv_X0_bottomOf : q_rcv q_T yX0_bottomOf.cls sp_X0_bottomOf := by
  intro ra μ K h
  obtain ⟨this, tile, rfl, h⟩ := sp_X0_bottomOf_i h
  obtain rfl := h.1
  exact ⟨[.inl tile], 1, 0, _, _, rfl, T_1, rfl, rfl⟩
theorem cm_X0_bottomOf : Cond.code yX0_bottomOf cX0_bottomOf 2 (some .int) ∈ q_tb := by decide +kernel
def sp_X0_rightOf : QP := fun ra μ K => match ra with
  | [.inl tile, .inr (.inr this)] => this = 1 ∧ (0 ≤ tile ∧ tile < 9) ∧ q_r (μ 1 0) ∧ K (some (.inl (if μ 1 0 ≤ tile % 3 * 4 + 4 then μ 1 0 else tile % 3 * 4 + 4))) μ
  | _ => False
theorem sp_X0_rightOf_e (this tile : Int) (μ : QM) (K : Option QV → QM → Prop) : sp_X0_rightOf [.inl tile, .inr (.inr this)] μ K = (this = 1 ∧ (0 ≤ tile ∧ tile < 9) ∧ q_r (μ 1 0) ∧ K (some (.inl (if μ 1 0 ≤ tile % 3 * 4 + 4 then μ 1 0 else tile % 3 * 4 + 4))) μ) := propext Iff.rfl
theorem sp_X0_rightOf_i {ra : List QV} {μ : QM} {K : Option QV → QM → Prop} (h : sp_X0_rightOf ra μ K) : ∃ this tile : Int, ra = [.inl tile, .inr (.inr this)] ∧ (this = 1 ∧ (0 ≤ tile ∧ tile < 9) ∧ q_r (μ 1 0) ∧ K (some (.inl (if μ 1 0 ≤ tile % 3 * 4 + 4 then μ 1 0 else tile % 3 * 4 + 4))) μ) := by
  unfold sp_X0_rightOf at h
  split at h
  · exact ⟨_, _, rfl, h⟩
  · exact h.elim
def rm_X0_rightOf : Room := { frames := 1, cells := 0, slots := 0, locals := 21 }
def G_X0_rightOf : Nat → Nat × QP := fun i => match i with
  | 29 => (2, sp_X0_leftOf)
  | 33 => (2, sp_J9_min_7cf53)
  | _ => (0, fun _ _ _ => False)
theorem G_X0_rightOf_29 : G_X0_rightOf 29 = (2, sp_X0_leftOf) := id rfl
theorem G_X0_rightOf_33 : G_X0_rightOf 33 = (2, sp_J9_min_7cf53) := id rfl
set_option maxRecDepth 100000 in
set_option maxHeartbeats 4000000 in
theorem B_X0_rightOf : q_Body cX0_rightOf 2 u_X0_rightOf fl_X0 ld_X0 G_X0_rightOf q_T 0 s_X0_rightOf sp_X0_rightOf := by
  intro S Rt hR ra μ h
  obtain ⟨this, tile, rfl, h⟩ := sp_X0_rightOf_i h
  refine ⟨by simp [q_sl, q_ct], ?_⟩
  show S 0 [some (.inr (.inr this)), some (.inl tile)] [] μ
  obtain ⟨rfl, h1, h2, h3⟩ := h
  refine hR 40 [] 0 _ _ _ rfl ?_
  simp only [v_opt_n, v_opt_s, v_nil, v_iconst, v_bipush, v_sipush, v_lconst0, v_lconst1, v_ldc, v_ldcw, v_ldc2, v_iload0, v_iload1, v_iload2, v_iload3, v_iload, v_lload0, v_lload1, v_lload2, v_lload3, v_lload, v_aload0, v_aload1, v_aload2, v_aload3, v_aload, v_istore0, v_istore1, v_istore2, v_istore3, v_istore, v_lstore0, v_lstore1, v_lstore2, v_lstore3, v_lstore, v_astore0, v_astore1, v_astore2, v_astore3, v_astore, v_iinc, v_iadd, v_isub, v_imul, v_iand, v_ior, v_ixor, v_ishl, v_ishr, v_iushr, v_ineg, v_idiv, v_irem, v_ladd, v_lsub, v_lmul, v_lcmp, v_i2l, v_l2i, v_i2c, v_dup, v_dup2, v_if_eq, v_if_ne, v_if_lt, v_if_ge, v_if_gt, v_if_le, v_ic_eq, v_ic_ne, v_ic_lt, v_ic_ge, v_ic_gt, v_ic_le, v_goto, v_tsw, v_lsw, v_ireturn, v_areturn, v_return, v_iaload, v_laload, v_baload, v_caload, v_aaload, v_iastore, v_lastore, v_bastore, v_castore, v_alen, v_invvi, v_invst, v_invsp, e_int, e_lng, e_ref, e_lg0, e_lg1, e_lg2, e_lg3, e_lg4, e_lg5, e_lg6, e_lg7, e_lg8, e_lg9, e_lg10, e_lg11, e_lg12, e_lg13, e_clrI, e_clrJ, e_clrP, e_clrN, e_s0, e_s1, e_s2, e_s3, e_s4, e_s5, e_s6, e_s7, e_s8, e_s9, e_s10, e_s11, e_s12, e_s13, e_t0, e_t1, e_t2, e_t3, e_t4, e_t5, e_t6, e_t7, e_t8, e_t9, e_t10, e_t11, e_t12, e_t13, e_fd, e_kk, e_k0, e_k1, e_k2, e_k3, e_k4, e_k5, e_k6, e_k7, e_k8, e_k9, e_sv0, e_sv1, e_sv2, e_sv3, e_svc, e_pf0, e_pf1, e_pf2, e_pf3, e_ar, e_aa, e_al, e_sw1, e_sw2, e_ct0, e_ct1, e_ct2, e_cat0, e_cat1, e_rk0, e_rk1, e_rk2, e_inv0, e_inv1, e_inv2, e_inv3, e_inv4, e_inv5, e_inv6, e_o0, e_o1, e_cl, e_cle, e_cg, e_cge, e_ce, e_cr1, e_cr2, e_r, e_R, e_up, Int.cast_ofNat_Int, u_app, false_and, and_false, e_b0, e_b1, e_bn, e_bl, e_bu, Int.reduceLE, Int.reduceLT, Int.reduceEq, Int.reduceNeg, Int.reduceAdd, Int.reduceSub, Int.reduceMul, Nat.reduceLeDiff, Nat.reduceLT, Nat.reduceAdd, Nat.reduceEqDiff, true_and, and_true, true_or, or_true, false_or, or_false, forall_const, not_true_eq_false, not_false_eq_true, true_implies, false_implies, implies_true, and_self, zero_ne_one, one_ne_zero, eq_self, reduceIte, s_X0_rightOf_0, b_X0_rightOf_0, g_X0_15, G_X0_rightOf_29, sp_X0_leftOf_e, G_X0_rightOf_33, sp_J9_min_7cf53_e]
  exact ⟨h1, ⟨h2, by omega⟩, h3⟩
set_option maxRecDepth 100000 in
theorem C_X0_rightOf {l : Launch} {ad : Int → Nat} {D : va_G} {cy : Nat → ClassId} {Z : State → Prop} (hZ : q_Zg ad Z) : q_Ct l q_T q_N ad D cy Z yX0_rightOf cX0_rightOf 2 (some .int) rm_X0_rightOf sp_X0_rightOf := by
  obtain ⟨hf, hg, hld⟩ := q_chkS k_X0_rightOf
  refine q_met (rk := 0) q_wokT (by decide) rfl hf hg hld rfl (q_skS L_X0_rightOf o_X0_rightOf) ?_ ?_ ?_ ?_ B_X0_rightOf
  · intro i hi; exact absurd hi List.not_mem_nil
  · intro i hi
    have hi : i = 29 := by simpa [u_X0_rightOf] using hi
    rcases hi with rfl
    · exact q_crV hZ.1 (C_X0_leftOf hZ) rv_X0_leftOf cm_X0_leftOf (by decide +kernel) (by decide +kernel) (by decide +kernel) (by decide +kernel) (by decide +kernel) ⟨rfl, rfl⟩ (by decide)
  · intro i hi
    have hi : i = 33 := by simpa [u_X0_rightOf] using hi
    rcases hi with rfl
    · exact q_crMin (by decide +kernel) (by decide)
  · intro i hi; exact absurd hi List.not_mem_nil
theorem rv_X0_rightOf : q_rcv q_T yX0_rightOf.cls sp_X0_rightOf := by
  intro ra μ K h
  obtain ⟨this, tile, rfl, h⟩ := sp_X0_rightOf_i h
  obtain rfl := h.1
  exact ⟨[.inl tile], 1, 0, _, _, rfl, T_1, rfl, rfl⟩
theorem cm_X0_rightOf : Cond.code yX0_rightOf cX0_rightOf 2 (some .int) ∈ q_tb := by decide +kernel
def sp_X0_topOf : QP := fun ra μ K => match ra with
  | [.inl tile, .inr (.inr this)] => this = 1 ∧ (0 ≤ tile ∧ tile < 9) ∧ q_r (μ 1 1) ∧ K (some (.inl (if μ 1 1 ≤ tile / 3 * 4 + 4 then μ 1 1 else tile / 3 * 4 + 4))) μ
  | _ => False
theorem sp_X0_topOf_e (this tile : Int) (μ : QM) (K : Option QV → QM → Prop) : sp_X0_topOf [.inl tile, .inr (.inr this)] μ K = (this = 1 ∧ (0 ≤ tile ∧ tile < 9) ∧ q_r (μ 1 1) ∧ K (some (.inl (if μ 1 1 ≤ tile / 3 * 4 + 4 then μ 1 1 else tile / 3 * 4 + 4))) μ) := propext Iff.rfl
theorem sp_X0_topOf_i {ra : List QV} {μ : QM} {K : Option QV → QM → Prop} (h : sp_X0_topOf ra μ K) : ∃ this tile : Int, ra = [.inl tile, .inr (.inr this)] ∧ (this = 1 ∧ (0 ≤ tile ∧ tile < 9) ∧ q_r (μ 1 1) ∧ K (some (.inl (if μ 1 1 ≤ tile / 3 * 4 + 4 then μ 1 1 else tile / 3 * 4 + 4))) μ) := by
  unfold sp_X0_topOf at h
  split at h
  · exact ⟨_, _, rfl, h⟩
  · exact h.elim
def rm_X0_topOf : Room := { frames := 1, cells := 0, slots := 0, locals := 21 }
def G_X0_topOf : Nat → Nat × QP := fun i => match i with
  | 38 => (2, sp_X0_bottomOf)
  | 33 => (2, sp_J9_min_7cf53)
  | _ => (0, fun _ _ _ => False)
theorem G_X0_topOf_38 : G_X0_topOf 38 = (2, sp_X0_bottomOf) := id rfl
theorem G_X0_topOf_33 : G_X0_topOf 33 = (2, sp_J9_min_7cf53) := id rfl
set_option maxRecDepth 100000 in
set_option maxHeartbeats 4000000 in
theorem B_X0_topOf : q_Body cX0_topOf 2 u_X0_topOf fl_X0 ld_X0 G_X0_topOf q_T 0 s_X0_topOf sp_X0_topOf := by
  intro S Rt hR ra μ h
  obtain ⟨this, tile, rfl, h⟩ := sp_X0_topOf_i h
  refine ⟨by simp [q_sl, q_ct], ?_⟩
  show S 0 [some (.inr (.inr this)), some (.inl tile)] [] μ
  obtain ⟨rfl, h1, h2, h3⟩ := h
  refine hR 40 [] 0 _ _ _ rfl ?_
  simp only [v_opt_n, v_opt_s, v_nil, v_iconst, v_bipush, v_sipush, v_lconst0, v_lconst1, v_ldc, v_ldcw, v_ldc2, v_iload0, v_iload1, v_iload2, v_iload3, v_iload, v_lload0, v_lload1, v_lload2, v_lload3, v_lload, v_aload0, v_aload1, v_aload2, v_aload3, v_aload, v_istore0, v_istore1, v_istore2, v_istore3, v_istore, v_lstore0, v_lstore1, v_lstore2, v_lstore3, v_lstore, v_astore0, v_astore1, v_astore2, v_astore3, v_astore, v_iinc, v_iadd, v_isub, v_imul, v_iand, v_ior, v_ixor, v_ishl, v_ishr, v_iushr, v_ineg, v_idiv, v_irem, v_ladd, v_lsub, v_lmul, v_lcmp, v_i2l, v_l2i, v_i2c, v_dup, v_dup2, v_if_eq, v_if_ne, v_if_lt, v_if_ge, v_if_gt, v_if_le, v_ic_eq, v_ic_ne, v_ic_lt, v_ic_ge, v_ic_gt, v_ic_le, v_goto, v_tsw, v_lsw, v_ireturn, v_areturn, v_return, v_iaload, v_laload, v_baload, v_caload, v_aaload, v_iastore, v_lastore, v_bastore, v_castore, v_alen, v_invvi, v_invst, v_invsp, e_int, e_lng, e_ref, e_lg0, e_lg1, e_lg2, e_lg3, e_lg4, e_lg5, e_lg6, e_lg7, e_lg8, e_lg9, e_lg10, e_lg11, e_lg12, e_lg13, e_clrI, e_clrJ, e_clrP, e_clrN, e_s0, e_s1, e_s2, e_s3, e_s4, e_s5, e_s6, e_s7, e_s8, e_s9, e_s10, e_s11, e_s12, e_s13, e_t0, e_t1, e_t2, e_t3, e_t4, e_t5, e_t6, e_t7, e_t8, e_t9, e_t10, e_t11, e_t12, e_t13, e_fd, e_kk, e_k0, e_k1, e_k2, e_k3, e_k4, e_k5, e_k6, e_k7, e_k8, e_k9, e_sv0, e_sv1, e_sv2, e_sv3, e_svc, e_pf0, e_pf1, e_pf2, e_pf3, e_ar, e_aa, e_al, e_sw1, e_sw2, e_ct0, e_ct1, e_ct2, e_cat0, e_cat1, e_rk0, e_rk1, e_rk2, e_inv0, e_inv1, e_inv2, e_inv3, e_inv4, e_inv5, e_inv6, e_o0, e_o1, e_cl, e_cle, e_cg, e_cge, e_ce, e_cr1, e_cr2, e_r, e_R, e_up, Int.cast_ofNat_Int, u_app, false_and, and_false, e_b0, e_b1, e_bn, e_bl, e_bu, Int.reduceLE, Int.reduceLT, Int.reduceEq, Int.reduceNeg, Int.reduceAdd, Int.reduceSub, Int.reduceMul, Nat.reduceLeDiff, Nat.reduceLT, Nat.reduceAdd, Nat.reduceEqDiff, true_and, and_true, true_or, or_true, false_or, or_false, forall_const, not_true_eq_false, not_false_eq_true, true_implies, false_implies, implies_true, and_self, zero_ne_one, one_ne_zero, eq_self, reduceIte, s_X0_topOf_0, b_X0_topOf_0, g_X0_19, G_X0_topOf_38, sp_X0_bottomOf_e, G_X0_topOf_33, sp_J9_min_7cf53_e]
  exact ⟨h1, ⟨h2, by omega⟩, h3⟩
set_option maxRecDepth 100000 in
theorem C_X0_topOf {l : Launch} {ad : Int → Nat} {D : va_G} {cy : Nat → ClassId} {Z : State → Prop} (hZ : q_Zg ad Z) : q_Ct l q_T q_N ad D cy Z yX0_topOf cX0_topOf 2 (some .int) rm_X0_topOf sp_X0_topOf := by
  obtain ⟨hf, hg, hld⟩ := q_chkS k_X0_topOf
  refine q_met (rk := 0) q_wokT (by decide) rfl hf hg hld rfl (q_skS L_X0_topOf o_X0_topOf) ?_ ?_ ?_ ?_ B_X0_topOf
  · intro i hi; exact absurd hi List.not_mem_nil
  · intro i hi
    have hi : i = 38 := by simpa [u_X0_topOf] using hi
    rcases hi with rfl
    · exact q_crV hZ.1 (C_X0_bottomOf hZ) rv_X0_bottomOf cm_X0_bottomOf (by decide +kernel) (by decide +kernel) (by decide +kernel) (by decide +kernel) (by decide +kernel) ⟨rfl, rfl⟩ (by decide)
  · intro i hi
    have hi : i = 33 := by simpa [u_X0_topOf] using hi
    rcases hi with rfl
    · exact q_crMin (by decide +kernel) (by decide)
  · intro i hi; exact absurd hi List.not_mem_nil
theorem rv_X0_topOf : q_rcv q_T yX0_topOf.cls sp_X0_topOf := by
  intro ra μ K h
  obtain ⟨this, tile, rfl, h⟩ := sp_X0_topOf_i h
  obtain rfl := h.1
  exact ⟨[.inl tile], 1, 0, _, _, rfl, T_1, rfl, rfl⟩
theorem cm_X0_topOf : Cond.code yX0_topOf cX0_topOf 2 (some .int) ∈ q_tb := by decide +kernel
def sp_X0_around : QP := fun ra μ K => match ra with
  | [.inl some9, .inr (.inr this)] => this = 1 ∧ K (some (.inl (q_and (q_or (q_or (q_row some9) (q_shl (q_row some9) 3)) (q_shr (q_row some9) 3)) (μ 1 2)))) μ
  | _ => False
theorem sp_X0_around_e (this some9 : Int) (μ : QM) (K : Option QV → QM → Prop) : sp_X0_around [.inl some9, .inr (.inr this)] μ K = (this = 1 ∧ K (some (.inl (q_and (q_or (q_or (q_row some9) (q_shl (q_row some9) 3)) (q_shr (q_row some9) 3)) (μ 1 2)))) μ) := propext Iff.rfl
theorem sp_X0_around_i {ra : List QV} {μ : QM} {K : Option QV → QM → Prop} (h : sp_X0_around ra μ K) : ∃ this some9 : Int, ra = [.inl some9, .inr (.inr this)] ∧ (this = 1 ∧ K (some (.inl (q_and (q_or (q_or (q_row some9) (q_shl (q_row some9) 3)) (q_shr (q_row some9) 3)) (μ 1 2)))) μ) := by
  unfold sp_X0_around at h
  split at h
  · exact ⟨_, _, rfl, h⟩
  · exact h.elim
def rm_X0_around : Room := { frames := 0, cells := 0, slots := 0, locals := 0 }
def G_X0_around : Nat → Nat × QP := fun i => match i with
  | _ => (0, fun _ _ _ => False)
set_option maxRecDepth 100000 in
set_option maxHeartbeats 4000000 in
theorem B_X0_around : q_Body cX0_around 3 u_X0_around fl_X0 ld_X0 G_X0_around q_T 0 s_X0_around sp_X0_around := by
  intro S Rt hR ra μ h
  obtain ⟨this, some9, rfl, h⟩ := sp_X0_around_i h
  refine ⟨by simp [q_sl, q_ct], ?_⟩
  show S 0 [some (.inr (.inr this)), some (.inl some9), none] [] μ
  obtain ⟨rfl, h3⟩ := h
  refine hR 40 [] 0 _ _ _ rfl ?_
  simp only [v_opt_n, v_opt_s, v_nil, v_iconst, v_bipush, v_sipush, v_lconst0, v_lconst1, v_ldc, v_ldcw, v_ldc2, v_iload0, v_iload1, v_iload2, v_iload3, v_iload, v_lload0, v_lload1, v_lload2, v_lload3, v_lload, v_aload0, v_aload1, v_aload2, v_aload3, v_aload, v_istore0, v_istore1, v_istore2, v_istore3, v_istore, v_lstore0, v_lstore1, v_lstore2, v_lstore3, v_lstore, v_astore0, v_astore1, v_astore2, v_astore3, v_astore, v_iinc, v_iadd, v_isub, v_imul, v_iand, v_ior, v_ixor, v_ishl, v_ishr, v_iushr, v_ineg, v_idiv, v_irem, v_ladd, v_lsub, v_lmul, v_lcmp, v_i2l, v_l2i, v_i2c, v_dup, v_dup2, v_if_eq, v_if_ne, v_if_lt, v_if_ge, v_if_gt, v_if_le, v_ic_eq, v_ic_ne, v_ic_lt, v_ic_ge, v_ic_gt, v_ic_le, v_goto, v_tsw, v_lsw, v_ireturn, v_areturn, v_return, v_iaload, v_laload, v_baload, v_caload, v_aaload, v_iastore, v_lastore, v_bastore, v_castore, v_alen, v_invvi, v_invst, v_invsp, e_int, e_lng, e_ref, e_lg0, e_lg1, e_lg2, e_lg3, e_lg4, e_lg5, e_lg6, e_lg7, e_lg8, e_lg9, e_lg10, e_lg11, e_lg12, e_lg13, e_clrI, e_clrJ, e_clrP, e_clrN, e_s0, e_s1, e_s2, e_s3, e_s4, e_s5, e_s6, e_s7, e_s8, e_s9, e_s10, e_s11, e_s12, e_s13, e_t0, e_t1, e_t2, e_t3, e_t4, e_t5, e_t6, e_t7, e_t8, e_t9, e_t10, e_t11, e_t12, e_t13, e_fd, e_kk, e_k0, e_k1, e_k2, e_k3, e_k4, e_k5, e_k6, e_k7, e_k8, e_k9, e_sv0, e_sv1, e_sv2, e_sv3, e_svc, e_pf0, e_pf1, e_pf2, e_pf3, e_ar, e_aa, e_al, e_sw1, e_sw2, e_ct0, e_ct1, e_ct2, e_cat0, e_cat1, e_rk0, e_rk1, e_rk2, e_inv0, e_inv1, e_inv2, e_inv3, e_inv4, e_inv5, e_inv6, e_o0, e_o1, e_cl, e_cle, e_cg, e_cge, e_ce, e_cr1, e_cr2, e_r, e_R, e_up, Int.cast_ofNat_Int, u_app, false_and, and_false, e_b0, e_b1, e_bn, e_bl, e_bu, Int.reduceLE, Int.reduceLT, Int.reduceEq, Int.reduceNeg, Int.reduceAdd, Int.reduceSub, Int.reduceMul, Nat.reduceLeDiff, Nat.reduceLT, Nat.reduceAdd, Nat.reduceEqDiff, true_and, and_true, true_or, or_true, false_or, or_false, forall_const, not_true_eq_false, not_false_eq_true, true_implies, false_implies, implies_true, and_self, zero_ne_one, one_ne_zero, eq_self, reduceIte, s_X0_around_0, b_X0_around_0, g_X0_22]
  exact h3
set_option maxRecDepth 100000 in
theorem C_X0_around {l : Launch} {ad : Int → Nat} {D : va_G} {cy : Nat → ClassId} {Z : State → Prop} (hZ : q_Zg ad Z) : q_Ct l q_T q_N ad D cy Z yX0_around cX0_around 3 (some .int) rm_X0_around sp_X0_around := by
  obtain ⟨hf, hg, hld⟩ := q_chkS k_X0_around
  refine q_met (rk := 0) q_wokT (by decide) rfl hf hg hld rfl (q_skS L_X0_around o_X0_around) ?_ ?_ ?_ ?_ B_X0_around
  · intro i hi; exact absurd hi List.not_mem_nil
  · intro i hi; exact absurd hi List.not_mem_nil
  · intro i hi; exact absurd hi List.not_mem_nil
  · intro i hi; exact absurd hi List.not_mem_nil
theorem rv_X0_around : q_rcv q_T yX0_around.cls sp_X0_around := by
  intro ra μ K h
  obtain ⟨this, some9, rfl, h⟩ := sp_X0_around_i h
  obtain rfl := h.1
  exact ⟨[.inl some9], 1, 0, _, _, rfl, T_1, rfl, rfl⟩
theorem cm_X0_around : Cond.code yX0_around cX0_around 3 (some .int) ∈ q_tb := by decide +kernel

