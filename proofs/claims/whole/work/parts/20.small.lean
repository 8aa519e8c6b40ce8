/-! what is said of the heap outside: nest links -/
def q_nst : List (String × Nat × MethodName × String) := [(RX0, 25, yX10_tileOf, "BoardSums"), (RX6, 28, yX10_orGap, "BoardSums"), (RX1, 56, yX10_placeOf, "BoardSums"), (RX1, 105, yX10_orGap, "BoardSums")]
def q_Zg (ad : Int → Nat) (Z : State → Prop) : Prop := q_Zok (q_A q_N ad) Z ∧ (∀ s : State, Z s → ∀ q ∈ q_nst, va_Nw (.methodLinkNest q.1 q.2.1 q.2.2.1 q.2.2.2) s)
def sp_X10_isSide : QP := fun ra μ K => match ra with
  | [.inl n] => (-2147483648 ≤ n ∧ n ≤ 2147483647) ∧ K (some (.inl (q_b (2 ≤ n ∧ n ≤ 12)))) μ
  | _ => False
theorem sp_X10_isSide_e (n : Int) (μ : QM) (K : Option QV → QM → Prop) : sp_X10_isSide [.inl n] μ K = ((-2147483648 ≤ n ∧ n ≤ 2147483647) ∧ K (some (.inl (q_b (2 ≤ n ∧ n ≤ 12)))) μ) := propext Iff.rfl
theorem sp_X10_isSide_i {ra : List QV} {μ : QM} {K : Option QV → QM → Prop} (h : sp_X10_isSide ra μ K) : ∃ n : Int, ra = [.inl n] ∧ ((-2147483648 ≤ n ∧ n ≤ 2147483647) ∧ K (some (.inl (q_b (2 ≤ n ∧ n ≤ 12)))) μ) := by
  unfold sp_X10_isSide at h
  split at h
  · exact ⟨_, rfl, h⟩
  · exact h.elim
def rm_X10_isSide : Room := { frames := 0, cells := 0, slots := 0, locals := 0 }
def G_X10_isSide : Nat → Nat × QP := fun i => match i with
  | _ => (0, fun _ _ _ => False)
set_option maxRecDepth 100000 in
set_option maxHeartbeats 4000000 in
theorem B_X10_isSide : q_Body cX10_isSide 1 u_X10_isSide fl_X10 ld_X10 G_X10_isSide q_T 1 s_X10_isSide sp_X10_isSide := by
  intro S Rt hR ra μ h
  obtain ⟨n, rfl, h⟩ := sp_X10_isSide_i h
  refine ⟨by simp [q_sl, q_ct], ?_⟩
  show S 0 [some (.inl n)] [] μ
  obtain ⟨h1, h2⟩ := h
  refine hR 40 [] 0 _ _ _ rfl ?_
  simp only [v_opt_n, v_opt_s, v_nil, v_iconst, v_bipush, v_sipush, v_lconst0, v_lconst1, v_ldc, v_ldcw, v_ldc2, v_iload0, v_iload1, v_iload2, v_iload3, v_iload, v_lload0, v_lload1, v_lload2, v_lload3, v_lload, v_aload0, v_aload1, v_aload2, v_aload3, v_aload, v_istore0, v_istore1, v_istore2, v_istore3, v_istore, v_lstore0, v_lstore1, v_lstore2, v_lstore3, v_lstore, v_astore0, v_astore1, v_astore2, v_astore3, v_astore, v_iinc, v_iadd, v_isub, v_imul, v_iand, v_ior, v_ixor, v_ishl, v_ishr, v_iushr, v_ineg, v_idiv, v_irem, v_ladd, v_lsub, v_lmul, v_lcmp, v_i2l, v_l2i, v_i2c, v_dup, v_dup2, v_if_eq, v_if_ne, v_if_lt, v_if_ge, v_if_gt, v_if_le, v_ic_eq, v_ic_ne, v_ic_lt, v_ic_ge, v_ic_gt, v_ic_le, v_goto, v_tsw, v_lsw, v_ireturn, v_areturn, v_return, v_iaload, v_laload, v_baload, v_caload, v_aaload, v_iastore, v_lastore, v_bastore, v_castore, v_alen, v_invvi, v_invst, v_invsp, e_int, e_lng, e_ref, e_lg0, e_lg1, e_lg2, e_lg3, e_lg4, e_lg5, e_lg6, e_lg7, e_lg8, e_lg9, e_lg10, e_lg11, e_lg12, e_lg13, e_clrI, e_clrJ, e_clrP, e_clrN, e_s0, e_s1, e_s2, e_s3, e_s4, e_s5, e_s6, e_s7, e_s8, e_s9, e_s10, e_s11, e_s12, e_s13, e_t0, e_t1, e_t2, e_t3, e_t4, e_t5, e_t6, e_t7, e_t8, e_t9, e_t10, e_t11, e_t12, e_t13, e_fd, e_kk, e_k0, e_k1, e_k2, e_k3, e_k4, e_k5, e_k6, e_k7, e_k8, e_k9, e_sv0, e_sv1, e_sv2, e_sv3, e_svc, e_pf0, e_pf1, e_pf2, e_pf3, e_ar, e_aa, e_al, e_sw1, e_sw2, e_ct0, e_ct1, e_ct2, e_cat0, e_cat1, e_rk0, e_rk1, e_rk2, e_inv0, e_inv1, e_inv2, e_inv3, e_inv4, e_inv5, e_inv6, e_o0, e_o1, e_cl, e_cle, e_cg, e_cge, e_ce, e_cr1, e_cr2, e_r, e_R, e_up, Int.cast_ofNat_Int, u_app, false_and, and_false, e_b0, e_b1, e_bn, e_bl, e_bu, Int.reduceLE, Int.reduceLT, Int.reduceEq, Int.reduceNeg, Int.reduceAdd, Int.reduceSub, Int.reduceMul, Nat.reduceLeDiff, Nat.reduceLT, Nat.reduceAdd, Nat.reduceEqDiff, true_and, and_true, true_or, or_true, false_or, or_false, forall_const, not_true_eq_false, not_false_eq_true, true_implies, false_implies, implies_true, and_self, zero_ne_one, one_ne_zero, eq_self, reduceIte, s_X10_isSide_0, b_X10_isSide_0, s_X10_isSide_5, b_X10_isSide_5, s_X10_isSide_11, b_X10_isSide_11, s_X10_isSide_15, b_X10_isSide_15, s_X10_isSide_16, b_X10_isSide_16]
  unfold q_b at h2
  split at h2 <;> (repeat' (first | (refine And.intro ?_ ?_) | (intro _))) <;> first | omega | assumption | (exfalso; omega)
set_option maxRecDepth 100000 in
theorem C_X10_isSide {l : Launch} {ad : Int → Nat} {D : va_G} {cy : Nat → ClassId} {Z : State → Prop} (hZ : q_Zg ad Z) : q_Ct l q_T q_N ad D cy Z yX10_isSide cX10_isSide 1 (some .boolean) rm_X10_isSide sp_X10_isSide := by
  obtain ⟨hf, hg, hld⟩ := q_chkS k_X10_isSide
  refine q_met (rk := 1) q_wokT (by decide) rfl hf hg hld rfl (q_skS L_X10_isSide o_X10_isSide) ?_ ?_ ?_ ?_ B_X10_isSide
  · intro i hi; exact absurd hi List.not_mem_nil
  · intro i hi; exact absurd hi List.not_mem_nil
  · intro i hi; exact absurd hi List.not_mem_nil
  · intro i hi; exact absurd hi List.not_mem_nil
theorem cm_X10_isSide : Cond.code yX10_isSide cX10_isSide 1 (some .boolean) ∈ q_tb := by decide +kernel
def sp_X10_tileOf : QP := fun ra μ K => match ra with
  | [.inl y, .inl x] => (0 ≤ x ∧ x ≤ 1000000 ∧ 0 ≤ y ∧ y ≤ 1000000) ∧ K (some (.inl (y / 4 * 3 + x / 4))) μ
  | _ => False
theorem sp_X10_tileOf_e (x y : Int) (μ : QM) (K : Option QV → QM → Prop) : sp_X10_tileOf [.inl y, .inl x] μ K = ((0 ≤ x ∧ x ≤ 1000000 ∧ 0 ≤ y ∧ y ≤ 1000000) ∧ K (some (.inl (y / 4 * 3 + x / 4))) μ) := propext Iff.rfl
theorem sp_X10_tileOf_i {ra : List QV} {μ : QM} {K : Option QV → QM → Prop} (h : sp_X10_tileOf ra μ K) : ∃ x y : Int, ra = [.inl y, .inl x] ∧ ((0 ≤ x ∧ x ≤ 1000000 ∧ 0 ≤ y ∧ y ≤ 1000000) ∧ K (some (.inl (y / 4 * 3 + x / 4))) μ) := by
  unfold sp_X10_tileOf at h
  split at h
  · exact ⟨_, _, rfl, h⟩
  · exact h.elim
def rm_X10_tileOf : Room := { frames := 0, cells := 0, slots := 0, locals := 0 }
def G_X10_tileOf : Nat → Nat × QP := fun i => match i with
  | _ => (0, fun _ _ _ => False)
set_option maxRecDepth 100000 in
set_option maxHeartbeats 4000000 in
theorem B_X10_tileOf : q_Body cX10_tileOf 2 u_X10_tileOf fl_X10 ld_X10 G_X10_tileOf q_T 0 s_X10_tileOf sp_X10_tileOf := by
  intro S Rt hR ra μ h
  obtain ⟨x, y, rfl, h⟩ := sp_X10_tileOf_i h
  refine ⟨by simp [q_sl, q_ct], ?_⟩
  show S 0 [some (.inl x), some (.inl y)] [] μ
  obtain ⟨h1, h2⟩ := h
  refine hR 40 [] 0 _ _ _ rfl ?_
  simp only [v_opt_n, v_opt_s, v_nil, v_iconst, v_bipush, v_sipush, v_lconst0, v_lconst1, v_ldc, v_ldcw, v_ldc2, v_iload0, v_iload1, v_iload2, v_iload3, v_iload, v_lload0, v_lload1, v_lload2, v_lload3, v_lload, v_aload0, v_aload1, v_aload2, v_aload3, v_aload, v_istore0, v_istore1, v_istore2, v_istore3, v_istore, v_lstore0, v_lstore1, v_lstore2, v_lstore3, v_lstore, v_astore0, v_astore1, v_astore2, v_astore3, v_astore, v_iinc, v_iadd, v_isub, v_imul, v_iand, v_ior, v_ixor, v_ishl, v_ishr, v_iushr, v_ineg, v_idiv, v_irem, v_ladd, v_lsub, v_lmul, v_lcmp, v_i2l, v_l2i, v_i2c, v_dup, v_dup2, v_if_eq, v_if_ne, v_if_lt, v_if_ge, v_if_gt, v_if_le, v_ic_eq, v_ic_ne, v_ic_lt, v_ic_ge, v_ic_gt, v_ic_le, v_goto, v_tsw, v_lsw, v_ireturn, v_areturn, v_return, v_iaload, v_laload, v_baload, v_caload, v_aaload, v_iastore, v_lastore, v_bastore, v_castore, v_alen, v_invvi, v_invst, v_invsp, e_int, e_lng, e_ref, e_lg0, e_lg1, e_lg2, e_lg3, e_lg4, e_lg5, e_lg6, e_lg7, e_lg8, e_lg9, e_lg10, e_lg11, e_lg12, e_lg13, e_clrI, e_clrJ, e_clrP, e_clrN, e_s0, e_s1, e_s2, e_s3, e_s4, e_s5, e_s6, e_s7, e_s8, e_s9, e_s10, e_s11, e_s12, e_s13, e_t0, e_t1, e_t2, e_t3, e_t4, e_t5, e_t6, e_t7, e_t8, e_t9, e_t10, e_t11, e_t12, e_t13, e_fd, e_kk, e_k0, e_k1, e_k2, e_k3, e_k4, e_k5, e_k6, e_k7, e_k8, e_k9, e_sv0, e_sv1, e_sv2, e_sv3, e_svc, e_pf0, e_pf1, e_pf2, e_pf3, e_ar, e_aa, e_al, e_sw1, e_sw2, e_ct0, e_ct1, e_ct2, e_cat0, e_cat1, e_rk0, e_rk1, e_rk2, e_inv0, e_inv1, e_inv2, e_inv3, e_inv4, e_inv5, e_inv6, e_o0, e_o1, e_cl, e_cle, e_cg, e_cge, e_ce, e_cr1, e_cr2, e_r, e_R, e_up, Int.cast_ofNat_Int, u_app, false_and, and_false, e_b0, e_b1, e_bn, e_bl, e_bu, Int.reduceLE, Int.reduceLT, Int.reduceEq, Int.reduceNeg, Int.reduceAdd, Int.reduceSub, Int.reduceMul, Nat.reduceLeDiff, Nat.reduceLT, Nat.reduceAdd, Nat.reduceEqDiff, true_and, and_true, true_or, or_true, false_or, or_false, forall_const, not_true_eq_false, not_false_eq_true, true_implies, false_implies, implies_true, and_self, zero_ne_one, one_ne_zero, eq_self, reduceIte, s_X10_tileOf_0, b_X10_tileOf_0]
  (repeat' (first | (refine And.intro ?_ ?_) | (intro _))) <;> first | omega | assumption | (exfalso; omega)
set_option maxRecDepth 100000 in
theorem C_X10_tileOf {l : Launch} {ad : Int → Nat} {D : va_G} {cy : Nat → ClassId} {Z : State → Prop} (hZ : q_Zg ad Z) : q_Ct l q_T q_N ad D cy Z yX10_tileOf cX10_tileOf 2 (some .int) rm_X10_tileOf sp_X10_tileOf := by
  obtain ⟨hf, hg, hld⟩ := q_chkS k_X10_tileOf
  refine q_met (rk := 0) q_wokT (by decide) rfl hf hg hld rfl (q_skS L_X10_tileOf o_X10_tileOf) ?_ ?_ ?_ ?_ B_X10_tileOf
  · intro i hi; exact absurd hi List.not_mem_nil
  · intro i hi; exact absurd hi List.not_mem_nil
  · intro i hi; exact absurd hi List.not_mem_nil
  · intro i hi; exact absurd hi List.not_mem_nil
theorem cm_X10_tileOf : Cond.code yX10_tileOf cX10_tileOf 2 (some .int) ∈ q_tb := by decide +kernel
def sp_X0_hasCell : QP := fun ra μ K => match ra with
  | [.inl y, .inl x, .inr (.inr this)] => this = 1 ∧ (q_r x ∧ q_r y ∧ q_r (μ 1 0) ∧ q_r (μ 1 1)) ∧ K (some (.inl (q_b (0 ≤ x ∧ x < μ 1 0 ∧ 0 ≤ y ∧ y < μ 1 1)))) μ
  | _ => False
theorem sp_X0_hasCell_e (this x y : Int) (μ : QM) (K : Option QV → QM → Prop) : sp_X0_hasCell [.inl y, .inl x, .inr (.inr this)] μ K = (this = 1 ∧ (q_r x ∧ q_r y ∧ q_r (μ 1 0) ∧ q_r (μ 1 1)) ∧ K (some (.inl (q_b (0 ≤ x ∧ x < μ 1 0 ∧ 0 ≤ y ∧ y < μ 1 1)))) μ) := propext Iff.rfl
theorem sp_X0_hasCell_i {ra : List QV} {μ : QM} {K : Option QV → QM → Prop} (h : sp_X0_hasCell ra μ K) : ∃ this x y : Int, ra = [.inl y, .inl x, .inr (.inr this)] ∧ (this = 1 ∧ (q_r x ∧ q_r y ∧ q_r (μ 1 0) ∧ q_r (μ 1 1)) ∧ K (some (.inl (q_b (0 ≤ x ∧ x < μ 1 0 ∧ 0 ≤ y ∧ y < μ 1 1)))) μ) := by
  unfold sp_X0_hasCell at h
  split at h
  · exact ⟨_, _, _, rfl, h⟩
  · exact h.elim
def rm_X0_hasCell : Room := { frames := 0, cells := 0, slots := 0, locals := 0 }
def G_X0_hasCell : Nat → Nat × QP := fun i => match i with
  | _ => (0, fun _ _ _ => False)
set_option maxRecDepth 100000 in
set_option maxHeartbeats 4000000 in
theorem B_X0_hasCell : q_Body cX0_hasCell 3 u_X0_hasCell fl_X0 ld_X0 G_X0_hasCell q_T 1 s_X0_hasCell sp_X0_hasCell := by
  intro S Rt hR ra μ h
  obtain ⟨this, x, y, rfl, h⟩ := sp_X0_hasCell_i h
  refine ⟨by simp [q_sl, q_ct], ?_⟩
  show S 0 [some (.inr (.inr this)), some (.inl x), some (.inl y)] [] μ
  obtain ⟨rfl, h1, h2⟩ := h
  refine hR 40 [] 0 _ _ _ rfl ?_
  simp only [v_opt_n, v_opt_s, v_nil, v_iconst, v_bipush, v_sipush, v_lconst0, v_lconst1, v_ldc, v_ldcw, v_ldc2, v_iload0, v_iload1, v_iload2, v_iload3, v_iload, v_lload0, v_lload1, v_lload2, v_lload3, v_lload, v_aload0, v_aload1, v_aload2, v_aload3, v_aload, v_istore0, v_istore1, v_istore2, v_istore3, v_istore, v_lstore0, v_lstore1, v_lstore2, v_lstore3, v_lstore, v_astore0, v_astore1, v_astore2, v_astore3, v_astore, v_iinc, v_iadd, v_isub, v_imul, v_iand, v_ior, v_ixor, v_ishl, v_ishr, v_iushr, v_ineg, v_idiv, v_irem, v_ladd, v_lsub, v_lmul, v_lcmp, v_i2l, v_l2i, v_i2c, v_dup, v_dup2, v_if_eq, v_if_ne, v_if_lt, v_if_ge, v_if_gt, v_if_le, v_ic_eq, v_ic_ne, v_ic_lt, v_ic_ge, v_ic_gt, v_ic_le, v_goto, v_tsw, v_lsw, v_ireturn, v_areturn, v_return, v_iaload, v_laload, v_baload, v_caload, v_aaload, v_iastore, v_lastore, v_bastore, v_castore, v_alen, v_invvi, v_invst, v_invsp, e_int, e_lng, e_ref, e_lg0, e_lg1, e_lg2, e_lg3, e_lg4, e_lg5, e_lg6, e_lg7, e_lg8, e_lg9, e_lg10, e_lg11, e_lg12, e_lg13, e_clrI, e_clrJ, e_clrP, e_clrN, e_s0, e_s1, e_s2, e_s3, e_s4, e_s5, e_s6, e_s7, e_s8, e_s9, e_s10, e_s11, e_s12, e_s13, e_t0, e_t1, e_t2, e_t3, e_t4, e_t5, e_t6, e_t7, e_t8, e_t9, e_t10, e_t11, e_t12, e_t13, e_fd, e_kk, e_k0, e_k1, e_k2, e_k3, e_k4, e_k5, e_k6, e_k7, e_k8, e_k9, e_sv0, e_sv1, e_sv2, e_sv3, e_svc, e_pf0, e_pf1, e_pf2, e_pf3, e_ar, e_aa, e_al, e_sw1, e_sw2, e_ct0, e_ct1, e_ct2, e_cat0, e_cat1, e_rk0, e_rk1, e_rk2, e_inv0, e_inv1, e_inv2, e_inv3, e_inv4, e_inv5, e_inv6, e_o0, e_o1, e_cl, e_cle, e_cg, e_cge, e_ce, e_cr1, e_cr2, e_r, e_R, e_up, Int.cast_ofNat_Int, u_app, false_and, and_false, e_b0, e_b1, e_bn, e_bl, e_bu, Int.reduceLE, Int.reduceLT, Int.reduceEq, Int.reduceNeg, Int.reduceAdd, Int.reduceSub, Int.reduceMul, Nat.reduceLeDiff, Nat.reduceLT, Nat.reduceAdd, Nat.reduceEqDiff, true_and, and_true, true_or, or_true, false_or, or_false, forall_const, not_true_eq_false, not_false_eq_true, true_implies, false_implies, implies_true, and_self, zero_ne_one, one_ne_zero, eq_self, reduceIte, s_X0_hasCell_0, b_X0_hasCell_0, s_X0_hasCell_4, b_X0_hasCell_4, s_X0_hasCell_12, b_X0_hasCell_12, s_X0_hasCell_16, b_X0_hasCell_16, s_X0_hasCell_24, b_X0_hasCell_24, s_X0_hasCell_28, b_X0_hasCell_28, s_X0_hasCell_29, b_X0_hasCell_29, g_X0_15, g_X0_19]
  unfold q_b at h2
  split at h2 <;> (repeat' (first | (refine And.intro ?_ ?_) | (intro _))) <;> first | omega | assumption | (exfalso; omega)
set_option maxRecDepth 100000 in
theorem C_X0_hasCell {l : Launch} {ad : Int → Nat} {D : va_G} {cy : Nat → ClassId} {Z : State → Prop} (hZ : q_Zg ad Z) : q_Ct l q_T q_N ad D cy Z yX0_hasCell cX0_hasCell 3 (some .boolean) rm_X0_hasCell sp_X0_hasCell := by
  obtain ⟨hf, hg, hld⟩ := q_chkS k_X0_hasCell
  refine q_met (rk := 1) q_wokT (by decide) rfl hf hg hld rfl (q_skS L_X0_hasCell o_X0_hasCell) ?_ ?_ ?_ ?_ B_X0_hasCell
  · intro i hi; exact absurd hi List.not_mem_nil
  · intro i hi; exact absurd hi List.not_mem_nil
  · intro i hi; exact absurd hi List.not_mem_nil
  · intro i hi; exact absurd hi List.not_mem_nil
theorem rv_X0_hasCell : q_rcv q_T yX0_hasCell.cls sp_X0_hasCell := by
  intro ra μ K h
  obtain ⟨this, x, y, rfl, h⟩ := sp_X0_hasCell_i h
  obtain rfl := h.1
  exact ⟨[.inl y, .inl x], 1, 0, _, _, rfl, T_1, rfl, rfl⟩
theorem cm_X0_hasCell : Cond.code yX0_hasCell cX0_hasCell 3 (some .boolean) ∈ q_tb := by decide +kernel
def sp_J7_fill_53178 : QP := fun ra μ K => match ra with
  | [.inl v, .inr (.inr a)] => ∃ n : Nat, q_T a = some (.inr (.inl 0, n)) ∧ n ≤ 2147483647 ∧ K none (fun b j => if b = a ∧ 0 ≤ j ∧ j < n then v else μ b j)
  | _ => False
theorem sp_J7_fill_53178_e (a v : Int) (μ : QM) (K : Option QV → QM → Prop) : sp_J7_fill_53178 [.inl v, .inr (.inr a)] μ K = (∃ n : Nat, q_T a = some (.inr (.inl 0, n)) ∧ n ≤ 2147483647 ∧ K none (fun b j => if b = a ∧ 0 ≤ j ∧ j < n then v else μ b j)) := propext Iff.rfl
theorem sp_J7_fill_53178_i {ra : List QV} {μ : QM} {K : Option QV → QM → Prop} (h : sp_J7_fill_53178 ra μ K) : ∃ a v : Int, ra = [.inl v, .inr (.inr a)] ∧ (∃ n : Nat, q_T a = some (.inr (.inl 0, n)) ∧ n ≤ 2147483647 ∧ K none (fun b j => if b = a ∧ 0 ≤ j ∧ j < n then v else μ b j)) := by
  unfold sp_J7_fill_53178 at h
  split at h
  · exact ⟨_, _, rfl, h⟩
  · exact h.elim
def rm_J7_fill_53178 : Room := { frames := 0, cells := 0, slots := 0, locals := 0 }
def G_J7_fill_53178 : Nat → Nat × QP := fun i => match i with
  | _ => (0, fun _ _ _ => False)
set_option maxRecDepth 100000 in
theorem J7_fill_loop {Rt : Option QV → QM → Prop} {S : Nat → QL → List QV → QM → Prop} (hR : q_Rule cJ7_fill_53178 4 u_J7_fill_53178 fl_J7 ld_J7 G_J7_fill_53178 q_T 4 s_J7_fill_53178 Rt S) {a v : Int} {m : Nat} (hT : q_T a = some (.inr (.inl 0, m))) (hm : m ≤ 2147483647) (h0 : 0 ≤ a) : ∀ (n : Nat) (i : Int) (μ : QM), 0 ≤ i → i ≤ m → m - i < n → Rt none (fun b j => if b = a ∧ i ≤ j ∧ j < m then v else μ b j) → S 5 [some (.inr (.inr a)), some (.inl v), some (.inl i), some (.inl m)] [] μ := by
  intro n
  induction n with
  | zero => intro i μ h1 h2 h3; omega
  | succ n ih =>
    intro i μ h1 h2 h3 h4
    refine hR 40 b_J7_fill_53178_5 5 _ _ _ o_J7_fill_53178_5 ?_
    simp only [v_opt_n, v_opt_s, v_nil, v_iconst, v_bipush, v_sipush, v_lconst0, v_lconst1, v_ldc, v_ldcw, v_ldc2, v_iload0, v_iload1, v_iload2, v_iload3, v_iload, v_lload0, v_lload1, v_lload2, v_lload3, v_lload, v_aload0, v_aload1, v_aload2, v_aload3, v_aload, v_istore0, v_istore1, v_istore2, v_istore3, v_istore, v_lstore0, v_lstore1, v_lstore2, v_lstore3, v_lstore, v_astore0, v_astore1, v_astore2, v_astore3, v_astore, v_iinc, v_iadd, v_isub, v_imul, v_iand, v_ior, v_ixor, v_ishl, v_ishr, v_iushr, v_ineg, v_idiv, v_irem, v_ladd, v_lsub, v_lmul, v_lcmp, v_i2l, v_l2i, v_i2c, v_dup, v_dup2, v_if_eq, v_if_ne, v_if_lt, v_if_ge, v_if_gt, v_if_le, v_ic_eq, v_ic_ne, v_ic_lt, v_ic_ge, v_ic_gt, v_ic_le, v_goto, v_tsw, v_lsw, v_ireturn, v_areturn, v_return, v_iaload, v_laload, v_baload, v_caload, v_aaload, v_iastore, v_lastore, v_bastore, v_castore, v_alen, v_invvi, v_invst, v_invsp, e_int, e_lng, e_ref, e_lg0, e_lg1, e_lg2, e_lg3, e_lg4, e_lg5, e_lg6, e_lg7, e_lg8, e_lg9, e_lg10, e_lg11, e_lg12, e_lg13, e_clrI, e_clrJ, e_clrP, e_clrN, e_s0, e_s1, e_s2, e_s3, e_s4, e_s5, e_s6, e_s7, e_s8, e_s9, e_s10, e_s11, e_s12, e_s13, e_t0, e_t1, e_t2, e_t3, e_t4, e_t5, e_t6, e_t7, e_t8, e_t9, e_t10, e_t11, e_t12, e_t13, e_fd, e_kk, e_k0, e_k1, e_k2, e_k3, e_k4, e_k5, e_k6, e_k7, e_k8, e_k9, e_sv0, e_sv1, e_sv2, e_sv3, e_svc, e_pf0, e_pf1, e_pf2, e_pf3, e_ar, e_aa, e_al, e_sw1, e_sw2, e_ct0, e_ct1, e_ct2, e_cat0, e_cat1, e_rk0, e_rk1, e_rk2, e_inv0, e_inv1, e_inv2, e_inv3, e_inv4, e_inv5, e_inv6, e_o0, e_o1, e_cl, e_cle, e_cg, e_cge, e_ce, e_cr1, e_cr2, e_r, e_R, e_up, Int.cast_ofNat_Int, u_app, false_and, and_false, e_b0, e_b1, e_bn, e_bl, e_bu, Int.reduceLE, Int.reduceLT, Int.reduceEq, Int.reduceNeg, Int.reduceAdd, Int.reduceSub, Int.reduceMul, Nat.reduceLeDiff, Nat.reduceLT, Nat.reduceAdd, Nat.reduceEqDiff, true_and, and_true, true_or, or_true, false_or, or_false, forall_const, not_true_eq_false, not_false_eq_true, true_implies, false_implies, implies_true, and_self, zero_ne_one, one_ne_zero, eq_self, reduceIte, s_J7_fill_53178_0, b_J7_fill_53178_0, s_J7_fill_53178_5, b_J7_fill_53178_5, s_J7_fill_53178_10, b_J7_fill_53178_10, s_J7_fill_53178_20, b_J7_fill_53178_20, hT]
    refine ⟨by omega, fun c => ?_, fun c => ?_⟩
    · have e : (fun b j => if b = a ∧ i ≤ j ∧ j < m then v else μ b j) = μ := by
        funext b j
        exact if_neg (by omega)
      rw [e] at h4
      exact h4
    · refine ⟨by omega, by omega, by omega, by omega, ?_⟩
      refine ih (i + 1) _ (by omega) (by omega) (by omega) ?_
      have e : (fun b j => if b = a ∧ i + 1 ≤ j ∧ j < m then v else q_up μ a i v b j) = (fun b j => if b = a ∧ i ≤ j ∧ j < m then v else μ b j) := by
        funext b j
        unfold q_up
        by_cases c1 : b = a ∧ i ≤ j ∧ j < m
        · rw [if_pos c1]
          by_cases c2 : j = i
          · rw [if_neg (by omega), if_pos ⟨c1.1, c2⟩]
          · rw [if_pos (by omega)]
        · rw [if_neg c1, if_neg (by omega), if_neg (by omega)]
      rw [e]
      exact h4
set_option maxRecDepth 100000 in
set_option maxHeartbeats 4000000 in
theorem B_J7_fill_53178 : q_Body cJ7_fill_53178 4 u_J7_fill_53178 fl_J7 ld_J7 G_J7_fill_53178 q_T 4 s_J7_fill_53178 sp_J7_fill_53178 := by
  intro S Rt hR ra μ h
  obtain ⟨a, v, rfl, h⟩ := sp_J7_fill_53178_i h
  refine ⟨by simp [q_sl, q_ct], ?_⟩
  show S 0 [some (.inr (.inr a)), some (.inl v), none, none] [] μ
  obtain ⟨n, hT, hn, h⟩ := h
  have ha : 0 ≤ a := (q_wokT.2.1 a _ hT).2
  refine hR 40 [] 0 _ _ _ rfl ?_
  simp only [v_opt_n, v_opt_s, v_nil, v_iconst, v_bipush, v_sipush, v_lconst0, v_lconst1, v_ldc, v_ldcw, v_ldc2, v_iload0, v_iload1, v_iload2, v_iload3, v_iload, v_lload0, v_lload1, v_lload2, v_lload3, v_lload, v_aload0, v_aload1, v_aload2, v_aload3, v_aload, v_istore0, v_istore1, v_istore2, v_istore3, v_istore, v_lstore0, v_lstore1, v_lstore2, v_lstore3, v_lstore, v_astore0, v_astore1, v_astore2, v_astore3, v_astore, v_iinc, v_iadd, v_isub, v_imul, v_iand, v_ior, v_ixor, v_ishl, v_ishr, v_iushr, v_ineg, v_idiv, v_irem, v_ladd, v_lsub, v_lmul, v_lcmp, v_i2l, v_l2i, v_i2c, v_dup, v_dup2, v_if_eq, v_if_ne, v_if_lt, v_if_ge, v_if_gt, v_if_le, v_ic_eq, v_ic_ne, v_ic_lt, v_ic_ge, v_ic_gt, v_ic_le, v_goto, v_tsw, v_lsw, v_ireturn, v_areturn, v_return, v_iaload, v_laload, v_baload, v_caload, v_aaload, v_iastore, v_lastore, v_bastore, v_castore, v_alen, v_invvi, v_invst, v_invsp, e_int, e_lng, e_ref, e_lg0, e_lg1, e_lg2, e_lg3, e_lg4, e_lg5, e_lg6, e_lg7, e_lg8, e_lg9, e_lg10, e_lg11, e_lg12, e_lg13, e_clrI, e_clrJ, e_clrP, e_clrN, e_s0, e_s1, e_s2, e_s3, e_s4, e_s5, e_s6, e_s7, e_s8, e_s9, e_s10, e_s11, e_s12, e_s13, e_t0, e_t1, e_t2, e_t3, e_t4, e_t5, e_t6, e_t7, e_t8, e_t9, e_t10, e_t11, e_t12, e_t13, e_fd, e_kk, e_k0, e_k1, e_k2, e_k3, e_k4, e_k5, e_k6, e_k7, e_k8, e_k9, e_sv0, e_sv1, e_sv2, e_sv3, e_svc, e_pf0, e_pf1, e_pf2, e_pf3, e_ar, e_aa, e_al, e_sw1, e_sw2, e_ct0, e_ct1, e_ct2, e_cat0, e_cat1, e_rk0, e_rk1, e_rk2, e_inv0, e_inv1, e_inv2, e_inv3, e_inv4, e_inv5, e_inv6, e_o0, e_o1, e_cl, e_cle, e_cg, e_cge, e_ce, e_cr1, e_cr2, e_r, e_R, e_up, Int.cast_ofNat_Int, u_app, false_and, and_false, e_b0, e_b1, e_bn, e_bl, e_bu, Int.reduceLE, Int.reduceLT, Int.reduceEq, Int.reduceNeg, Int.reduceAdd, Int.reduceSub, Int.reduceMul, Nat.reduceLeDiff, Nat.reduceLT, Nat.reduceAdd, Nat.reduceEqDiff, true_and, and_true, true_or, or_true, false_or, or_false, forall_const, not_true_eq_false, not_false_eq_true, true_implies, false_implies, implies_true, and_self, zero_ne_one, one_ne_zero, eq_self, reduceIte, s_J7_fill_53178_0, b_J7_fill_53178_0, s_J7_fill_53178_5, b_J7_fill_53178_5, s_J7_fill_53178_10, b_J7_fill_53178_10, s_J7_fill_53178_20, b_J7_fill_53178_20, hT]
  refine ⟨ha, ?_⟩
  exact J7_fill_loop hR hT hn ha (n + 1) 0 μ (by omega) (by omega) (by omega) h
set_option maxRecDepth 100000 in
theorem C_J7_fill_53178 {l : Launch} {ad : Int → Nat} {D : va_G} {cy : Nat → ClassId} {Z : State → Prop} (hZ : q_Zg ad Z) : q_Ct l q_T q_N ad D cy Z yJ7_fill_53178 cJ7_fill_53178 4 none rm_J7_fill_53178 sp_J7_fill_53178 := by
  obtain ⟨hf, hg, hld⟩ := q_chkS k_J7_fill_53178
  refine q_met (rk := 4) q_wokT (by decide) rfl hf hg hld rfl (q_skS L_J7_fill_53178 o_J7_fill_53178) ?_ ?_ ?_ ?_ B_J7_fill_53178
  · intro i hi; exact absurd hi List.not_mem_nil
  · intro i hi; exact absurd hi List.not_mem_nil
  · intro i hi; exact absurd hi List.not_mem_nil
  · intro i hi; exact absurd hi List.not_mem_nil
theorem cm_J7_fill_53178 : Cond.code yJ7_fill_53178 cJ7_fill_53178 4 none ∈ q_tb := by decide +kernel

