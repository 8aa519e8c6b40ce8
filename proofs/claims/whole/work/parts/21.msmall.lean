/-- of both values there -/
def q_kept (v : Int) : Int := if -1000000000 ≤ v ∧ v ≤ 1000000000 then v else -2000000000
def q_taken (how got sum least most : Int) : Int := if how = 14 then got else if got = 0 then -2000000000 else q_kept (if how = 13 then sum else if how = 4 then least else most)
def q_cellOf (kind a b : Int) : Int := if a = -2000000000 ∨ b = -2000000000 then -2000000000 else if kind = 1 then q_kept (a + b) else if kind = 2 then q_kept (a - b) else if kind = 3 then q_kept (a * b) else if kind = 4 then (if a < b then a else b) else if kind = 5 then (if b < a then a else b) else if 0 < b then a else -2000000000
def q_take (v : Int) (μ : QM) : QM := if v = -2000000000 then μ else q_up (q_up (q_up (q_up μ 85 19 (if μ 85 17 = 0 ∨ v < μ 85 19 then v else μ 85 19)) 85 20 (if μ 85 17 = 0 ∨ μ 85 20 < v then v else μ 85 20)) 85 18 (μ 85 18 + v)) 85 17 (μ 85 17 + 1)
/-! the reference's small methods -/
def sp_X11_in : QP := fun ra μ K => match ra with
  | [.inr (.inl high), .inr (.inl low), .inr (.inl v)] => (q_R v ∧ q_R low ∧ q_R high) ∧ K (some (.inl (q_b (low ≤ v ∧ v ≤ high)))) μ
  | _ => False
theorem sp_X11_in_e (v low high : Int) (μ : QM) (K : Option QV → QM → Prop) : sp_X11_in [.inr (.inl high), .inr (.inl low), .inr (.inl v)] μ K = ((q_R v ∧ q_R low ∧ q_R high) ∧ K (some (.inl (q_b (low ≤ v ∧ v ≤ high)))) μ) := propext Iff.rfl
theorem sp_X11_in_i {ra : List QV} {μ : QM} {K : Option QV → QM → Prop} (h : sp_X11_in ra μ K) : ∃ v low high : Int, ra = [.inr (.inl high), .inr (.inl low), .inr (.inl v)] ∧ ((q_R v ∧ q_R low ∧ q_R high) ∧ K (some (.inl (q_b (low ≤ v ∧ v ≤ high)))) μ) := by
  unfold sp_X11_in at h
  split at h
  · exact ⟨_, _, _, rfl, h⟩
  · exact h.elim
def rm_X11_in : Room := { frames := 0, cells := 0, slots := 0, locals := 0 }
def G_X11_in : Nat → Nat × QP := fun i => match i with
  | _ => (0, fun _ _ _ => False)
set_option maxRecDepth 100000 in
set_option maxHeartbeats 4000000 in
theorem B_X11_in : q_Body cX11_in 6 u_X11_in fl_X11 ld_X11 G_X11_in q_T 1 s_X11_in sp_X11_in := by
  intro S Rt hR ra μ h
  obtain ⟨v, low, high, rfl, h⟩ := sp_X11_in_i h
  refine ⟨by simp [q_sl, q_ct], ?_⟩
  show S 0 [some (.inr (.inl v)), none, some (.inr (.inl low)), none, some (.inr (.inl high)), none] [] μ
  obtain ⟨h1, h2⟩ := h
  refine hR 40 [] 0 _ _ _ rfl ?_
  simp only [v_opt_n, v_opt_s, v_nil, v_iconst, v_bipush, v_sipush, v_lconst0, v_lconst1, v_ldc, v_ldcw, v_ldc2, v_iload0, v_iload1, v_iload2, v_iload3, v_iload, v_lload0, v_lload1, v_lload2, v_lload3, v_lload, v_aload0, v_aload1, v_aload2, v_aload3, v_aload, v_istore0, v_istore1, v_istore2, v_istore3, v_istore, v_lstore0, v_lstore1, v_lstore2, v_lstore3, v_lstore, v_astore0, v_astore1, v_astore2, v_astore3, v_astore, v_iinc, v_iadd, v_isub, v_imul, v_iand, v_ior, v_ixor, v_ishl, v_ishr, v_iushr, v_ineg, v_idiv, v_irem, v_ladd, v_lsub, v_lmul, v_lcmp, v_i2l, v_l2i, v_i2c, v_dup, v_dup2, v_if_eq, v_if_ne, v_if_lt, v_if_ge, v_if_gt, v_if_le, v_ic_eq, v_ic_ne, v_ic_lt, v_ic_ge, v_ic_gt, v_ic_le, v_goto, v_tsw, v_lsw, v_ireturn, v_areturn, v_return, v_iaload, v_laload, v_baload, v_caload, v_aaload, v_iastore, v_lastore, v_bastore, v_castore, v_alen, v_invvi, v_invst, v_invsp, e_int, e_lng, e_ref, e_lg0, e_lg1, e_lg2, e_lg3, e_lg4, e_lg5, e_lg6, e_lg7, e_lg8, e_lg9, e_lg10, e_lg11, e_lg12, e_lg13, e_clrI, e_clrJ, e_clrP, e_clrN, e_s0, e_s1, e_s2, e_s3, e_s4, e_s5, e_s6, e_s7, e_s8, e_s9, e_s10, e_s11, e_s12, e_s13, e_t0, e_t1, e_t2, e_t3, e_t4, e_t5, e_t6, e_t7, e_t8, e_t9, e_t10, e_t11, e_t12, e_t13, e_fd, e_kk, e_k0, e_k1, e_k2, e_k3, e_k4, e_k5, e_k6, e_k7, e_k8, e_k9, e_sv0, e_sv1, e_sv2, e_sv3, e_svc, e_pf0, e_pf1, e_pf2, e_pf3, e_ar, e_aa, e_al, e_sw1, e_sw2, e_ct0, e_ct1, e_ct2, e_cat0, e_cat1, e_rk0, e_rk1, e_rk2, e_inv0, e_inv1, e_inv2, e_inv3, e_inv4, e_inv5, e_inv6, e_o0, e_o1, e_cl, e_cle, e_cg, e_cge, e_ce, e_cr1, e_cr2, e_r, e_R, e_up, Int.cast_ofNat_Int, u_app, false_and, and_false, e_b0, e_b1, e_bn, e_bl, e_bu, Int.reduceLE, Int.reduceLT, Int.reduceEq, Int.reduceNeg, Int.reduceAdd, Int.reduceSub, Int.reduceMul, Nat.reduceLeDiff, Nat.reduceLT, Nat.reduceAdd, Nat.reduceEqDiff, true_and, and_true, true_or, or_true, false_or, or_false, forall_const, not_true_eq_false, not_false_eq_true, true_implies, false_implies, implies_true, and_self, zero_ne_one, one_ne_zero, eq_self, reduceIte, s_X11_in_0, b_X11_in_0, s_X11_in_6, b_X11_in_6, s_X11_in_13, b_X11_in_13, s_X11_in_17, b_X11_in_17, s_X11_in_18, b_X11_in_18]
  unfold q_b at h2
  split at h2 <;> (repeat' (first | (refine And.intro ?_ ?_) | (intro _))) <;> first | omega | assumption | (exfalso; omega)
set_option maxRecDepth 100000 in
theorem C_X11_in {l : Launch} {ad : Int → Nat} {D : va_G} {cy : Nat → ClassId} {Z : State → Prop} (hZ : q_Zg ad Z) : q_Ct l q_T q_N ad D cy Z yX11_in cX11_in 6 (some .boolean) rm_X11_in sp_X11_in := by
  obtain ⟨hf, hg, hld⟩ := q_chkS k_X11_in
  refine q_met (rk := 1) q_wokT (by decide) rfl hf hg hld rfl (q_skS L_X11_in o_X11_in) ?_ ?_ ?_ ?_ B_X11_in
  · intro i hi; exact absurd hi List.not_mem_nil
  · intro i hi; exact absurd hi List.not_mem_nil
  · intro i hi; exact absurd hi List.not_mem_nil
  · intro i hi; exact absurd hi List.not_mem_nil
theorem cm_X11_in : Cond.code yX11_in cX11_in 6 (some .boolean) ∈ q_tb := by decide +kernel
def sp_X11_answer : QP := fun ra μ K => match ra with
  | [.inl v, .inr (.inr this)] => this = 85 ∧ q_r v ∧ K (some (.inl v)) (q_up μ 85 1 (if v < 0 then v else 0))
  | _ => False
theorem sp_X11_answer_e (this v : Int) (μ : QM) (K : Option QV → QM → Prop) : sp_X11_answer [.inl v, .inr (.inr this)] μ K = (this = 85 ∧ q_r v ∧ K (some (.inl v)) (q_up μ 85 1 (if v < 0 then v else 0))) := propext Iff.rfl
theorem sp_X11_answer_i {ra : List QV} {μ : QM} {K : Option QV → QM → Prop} (h : sp_X11_answer ra μ K) : ∃ this v : Int, ra = [.inl v, .inr (.inr this)] ∧ (this = 85 ∧ q_r v ∧ K (some (.inl v)) (q_up μ 85 1 (if v < 0 then v else 0))) := by
  unfold sp_X11_answer at h
  split at h
  · exact ⟨_, _, rfl, h⟩
  · exact h.elim
def rm_X11_answer : Room := { frames := 0, cells := 0, slots := 0, locals := 0 }
def G_X11_answer : Nat → Nat × QP := fun i => match i with
  | _ => (0, fun _ _ _ => False)
set_option maxRecDepth 100000 in
set_option maxHeartbeats 4000000 in
theorem B_X11_answer : q_Body cX11_answer 2 u_X11_answer fl_X11 ld_X11 G_X11_answer q_T 0 s_X11_answer sp_X11_answer := by
  intro S Rt hR ra μ h
  obtain ⟨this, v, rfl, h⟩ := sp_X11_answer_i h
  refine ⟨by simp [q_sl, q_ct], ?_⟩
  show S 0 [some (.inr (.inr this)), some (.inl v)] [] μ
  obtain ⟨rfl, h1, h2⟩ := h
  refine hR 40 [] 0 _ _ _ rfl ?_
  simp only [v_opt_n, v_opt_s, v_nil, v_iconst, v_bipush, v_sipush, v_lconst0, v_lconst1, v_ldc, v_ldcw, v_ldc2, v_iload0, v_iload1, v_iload2, v_iload3, v_iload, v_lload0, v_lload1, v_lload2, v_lload3, v_lload, v_aload0, v_aload1, v_aload2, v_aload3, v_aload, v_istore0, v_istore1, v_istore2, v_istore3, v_istore, v_lstore0, v_lstore1, v_lstore2, v_lstore3, v_lstore, v_astore0, v_astore1, v_astore2, v_astore3, v_astore, v_iinc, v_iadd, v_isub, v_imul, v_iand, v_ior, v_ixor, v_ishl, v_ishr, v_iushr, v_ineg, v_idiv, v_irem, v_ladd, v_lsub, v_lmul, v_lcmp, v_i2l, v_l2i, v_i2c, v_dup, v_dup2, v_if_eq, v_if_ne, v_if_lt, v_if_ge, v_if_gt, v_if_le, v_ic_eq, v_ic_ne, v_ic_lt, v_ic_ge, v_ic_gt, v_ic_le, v_goto, v_tsw, v_lsw, v_ireturn, v_areturn, v_return, v_iaload, v_laload, v_baload, v_caload, v_aaload, v_iastore, v_lastore, v_bastore, v_castore, v_alen, v_invvi, v_invst, v_invsp, e_int, e_lng, e_ref, e_lg0, e_lg1, e_lg2, e_lg3, e_lg4, e_lg5, e_lg6, e_lg7, e_lg8, e_lg9, e_lg10, e_lg11, e_lg12, e_lg13, e_clrI, e_clrJ, e_clrP, e_clrN, e_s0, e_s1, e_s2, e_s3, e_s4, e_s5, e_s6, e_s7, e_s8, e_s9, e_s10, e_s11, e_s12, e_s13, e_t0, e_t1, e_t2, e_t3, e_t4, e_t5, e_t6, e_t7, e_t8, e_t9, e_t10, e_t11, e_t12, e_t13, e_fd, e_kk, e_k0, e_k1, e_k2, e_k3, e_k4, e_k5, e_k6, e_k7, e_k8, e_k9, e_sv0, e_sv1, e_sv2, e_sv3, e_svc, e_pf0, e_pf1, e_pf2, e_pf3, e_ar, e_aa, e_al, e_sw1, e_sw2, e_ct0, e_ct1, e_ct2, e_cat0, e_cat1, e_rk0, e_rk1, e_rk2, e_inv0, e_inv1, e_inv2, e_inv3, e_inv4, e_inv5, e_inv6, e_o0, e_o1, e_cl, e_cle, e_cg, e_cge, e_ce, e_cr1, e_cr2, e_r, e_R, e_up, Int.cast_ofNat_Int, u_app, false_and, and_false, e_b0, e_b1, e_bn, e_bl, e_bu, Int.reduceLE, Int.reduceLT, Int.reduceEq, Int.reduceNeg, Int.reduceAdd, Int.reduceSub, Int.reduceMul, Nat.reduceLeDiff, Nat.reduceLT, Nat.reduceAdd, Nat.reduceEqDiff, true_and, and_true, true_or, or_true, false_or, or_false, forall_const, not_true_eq_false, not_false_eq_true, true_implies, false_implies, implies_true, and_self, zero_ne_one, one_ne_zero, eq_self, reduceIte, s_X11_answer_0, b_X11_answer_0, s_X11_answer_5, b_X11_answer_5, s_X11_answer_9, b_X11_answer_9, s_X11_answer_10, b_X11_answer_10, g_X11_88, p_X11_88]
  split at h2 <;> (repeat' (first | (refine And.intro ?_ ?_) | (intro _))) <;> first | omega | assumption | (exfalso; omega)
set_option maxRecDepth 100000 in
theorem C_X11_answer {l : Launch} {ad : Int → Nat} {D : va_G} {cy : Nat → ClassId} {Z : State → Prop} (hZ : q_Zg ad Z) : q_Ct l q_T q_N ad D cy Z yX11_answer cX11_answer 2 (some .int) rm_X11_answer sp_X11_answer := by
  obtain ⟨hf, hg, hld⟩ := q_chkS k_X11_answer
  refine q_met (rk := 0) q_wokT (by decide) rfl hf hg hld rfl (q_skS L_X11_answer o_X11_answer) ?_ ?_ ?_ ?_ B_X11_answer
  · intro i hi; exact absurd hi List.not_mem_nil
  · intro i hi; exact absurd hi List.not_mem_nil
  · intro i hi; exact absurd hi List.not_mem_nil
  · intro i hi; exact absurd hi List.not_mem_nil
theorem rv_X11_answer : q_rcv q_T yX11_answer.cls sp_X11_answer := by
  intro ra μ K h
  obtain ⟨this, v, rfl, h⟩ := sp_X11_answer_i h
  obtain rfl := h.1
  exact ⟨[.inl v], 85, 11, _, _, rfl, T_85, rfl, rfl⟩
theorem cm_X11_answer : Cond.code yX11_answer cX11_answer 2 (some .int) ∈ q_tb := by decide +kernel
def sp_X11_isCell : QP := fun ra μ K => match ra with
  | [.inl y, .inl x, .inr (.inr this)] => this = 85 ∧ (q_r x ∧ q_r y ∧ q_r (μ 85 2) ∧ q_r (μ 85 3)) ∧ K (some (.inl (q_b (0 ≤ x ∧ x < μ 85 2 ∧ 0 ≤ y ∧ y < μ 85 3)))) μ
  | _ => False
theorem sp_X11_isCell_e (this x y : Int) (μ : QM) (K : Option QV → QM → Prop) : sp_X11_isCell [.inl y, .inl x, .inr (.inr this)] μ K = (this = 85 ∧ (q_r x ∧ q_r y ∧ q_r (μ 85 2) ∧ q_r (μ 85 3)) ∧ K (some (.inl (q_b (0 ≤ x ∧ x < μ 85 2 ∧ 0 ≤ y ∧ y < μ 85 3)))) μ) := propext Iff.rfl
theorem sp_X11_isCell_i {ra : List QV} {μ : QM} {K : Option QV → QM → Prop} (h : sp_X11_isCell ra μ K) : ∃ this x y : Int, ra = [.inl y, .inl x, .inr (.inr this)] ∧ (this = 85 ∧ (q_r x ∧ q_r y ∧ q_r (μ 85 2) ∧ q_r (μ 85 3)) ∧ K (some (.inl (q_b (0 ≤ x ∧ x < μ 85 2 ∧ 0 ≤ y ∧ y < μ 85 3)))) μ) := by
  unfold sp_X11_isCell at h
  split at h
  · exact ⟨_, _, _, rfl, h⟩
  · exact h.elim
def rm_X11_isCell : Room := { frames := 1, cells := 0, slots := 0, locals := 25 }
def G_X11_isCell : Nat → Nat × QP := fun i => match i with
  | 95 => (3, sp_X11_in)
  | _ => (0, fun _ _ _ => False)
theorem G_X11_isCell_95 : G_X11_isCell 95 = (3, sp_X11_in) := id rfl
set_option maxRecDepth 100000 in
set_option maxHeartbeats 4000000 in
theorem B_X11_isCell : q_Body cX11_isCell 3 u_X11_isCell fl_X11 ld_X11 G_X11_isCell q_T 1 s_X11_isCell sp_X11_isCell := by
  intro S Rt hR ra μ h
  obtain ⟨this, x, y, rfl, h⟩ := sp_X11_isCell_i h
  refine ⟨by simp [q_sl, q_ct], ?_⟩
  show S 0 [some (.inr (.inr this)), some (.inl x), some (.inl y)] [] μ
  obtain ⟨rfl, h1, h2⟩ := h
  refine hR 60 [] 0 _ _ _ rfl ?_
  simp only [v_opt_n, v_opt_s, v_nil, v_iconst, v_bipush, v_sipush, v_lconst0, v_lconst1, v_ldc, v_ldcw, v_ldc2, v_iload0, v_iload1, v_iload2, v_iload3, v_iload, v_lload0, v_lload1, v_lload2, v_lload3, v_lload, v_aload0, v_aload1, v_aload2, v_aload3, v_aload, v_istore0, v_istore1, v_istore2, v_istore3, v_istore, v_lstore0, v_lstore1, v_lstore2, v_lstore3, v_lstore, v_astore0, v_astore1, v_astore2, v_astore3, v_astore, v_iinc, v_iadd, v_isub, v_imul, v_iand, v_ior, v_ixor, v_ishl, v_ishr, v_iushr, v_ineg, v_idiv, v_irem, v_ladd, v_lsub, v_lmul, v_lcmp, v_i2l, v_l2i, v_i2c, v_dup, v_dup2, v_if_eq, v_if_ne, v_if_lt, v_if_ge, v_if_gt, v_if_le, v_ic_eq, v_ic_ne, v_ic_lt, v_ic_ge, v_ic_gt, v_ic_le, v_goto, v_tsw, v_lsw, v_ireturn, v_areturn, v_return, v_iaload, v_laload, v_baload, v_caload, v_aaload, v_iastore, v_lastore, v_bastore, v_castore, v_alen, v_invvi, v_invst, v_invsp, e_int, e_lng, e_ref, e_lg0, e_lg1, e_lg2, e_lg3, e_lg4, e_lg5, e_lg6, e_lg7, e_lg8, e_lg9, e_lg10, e_lg11, e_lg12, e_lg13, e_clrI, e_clrJ, e_clrP, e_clrN, e_s0, e_s1, e_s2, e_s3, e_s4, e_s5, e_s6, e_s7, e_s8, e_s9, e_s10, e_s11, e_s12, e_s13, e_t0, e_t1, e_t2, e_t3, e_t4, e_t5, e_t6, e_t7, e_t8, e_t9, e_t10, e_t11, e_t12, e_t13, e_fd, e_kk, e_k0, e_k1, e_k2, e_k3, e_k4, e_k5, e_k6, e_k7, e_k8, e_k9, e_sv0, e_sv1, e_sv2, e_sv3, e_svc, e_pf0, e_pf1, e_pf2, e_pf3, e_ar, e_aa, e_al, e_sw1, e_sw2, e_ct0, e_ct1, e_ct2, e_cat0, e_cat1, e_rk0, e_rk1, e_rk2, e_inv0, e_inv1, e_inv2, e_inv3, e_inv4, e_inv5, e_inv6, e_o0, e_o1, e_cl, e_cle, e_cg, e_cge, e_ce, e_cr1, e_cr2, e_r, e_R, e_up, Int.cast_ofNat_Int, u_app, false_and, and_false, e_b0, e_b1, e_bn, e_bl, e_bu, Int.reduceLE, Int.reduceLT, Int.reduceEq, Int.reduceNeg, Int.reduceAdd, Int.reduceSub, Int.reduceMul, Nat.reduceLeDiff, Nat.reduceLT, Nat.reduceAdd, Nat.reduceEqDiff, true_and, and_true, true_or, or_true, false_or, or_false, forall_const, not_true_eq_false, not_false_eq_true, true_implies, false_implies, implies_true, and_self, zero_ne_one, one_ne_zero, eq_self, reduceIte, s_X11_isCell_0, b_X11_isCell_0, s_X11_isCell_16, b_X11_isCell_16, s_X11_isCell_32, b_X11_isCell_32, s_X11_isCell_36, b_X11_isCell_36, s_X11_isCell_37, b_X11_isCell_37, g_X11_7, g_X11_13, G_X11_isCell_95, sp_X11_in_e]
  unfold q_b at h2
  split at h2 <;> (repeat' (first | (refine And.intro ?_ ?_) | (intro _))) <;> first | omega | assumption | (exfalso; omega)
set_option maxRecDepth 100000 in
theorem C_X11_isCell {l : Launch} {ad : Int → Nat} {D : va_G} {cy : Nat → ClassId} {Z : State → Prop} (hZ : q_Zg ad Z) : q_Ct l q_T q_N ad D cy Z yX11_isCell cX11_isCell 3 (some .boolean) rm_X11_isCell sp_X11_isCell := by
  obtain ⟨hf, hg, hld⟩ := q_chkS k_X11_isCell
  refine q_met (rk := 1) q_wokT (by decide) rfl hf hg hld rfl (q_skS L_X11_isCell o_X11_isCell) ?_ ?_ ?_ ?_ B_X11_isCell
  · intro i hi; exact absurd hi List.not_mem_nil
  · intro i hi; exact absurd hi List.not_mem_nil
  · intro i hi
    have hi : i = 95 := by simpa [u_X11_isCell] using hi
    rcases hi with rfl
    · exact q_crS hZ.1 (C_X11_in hZ) cm_X11_in (by decide +kernel) (by decide +kernel) (by decide +kernel) (by decide +kernel) ⟨rfl, rfl⟩ (by decide)
  · intro i hi; exact absurd hi List.not_mem_nil
theorem rv_X11_isCell : q_rcv q_T yX11_isCell.cls sp_X11_isCell := by
  intro ra μ K h
  obtain ⟨this, x, y, rfl, h⟩ := sp_X11_isCell_i h
  obtain rfl := h.1
  exact ⟨[.inl y, .inl x], 85, 11, _, _, rfl, T_85, rfl, rfl⟩
theorem cm_X11_isCell : Cond.code yX11_isCell cX11_isCell 3 (some .boolean) ∈ q_tb := by decide +kernel
def sp_X11_tileOf : QP := fun ra μ K => match ra with
  | [.inl y, .inl x] => (0 ≤ x ∧ x ≤ 1000000 ∧ 0 ≤ y ∧ y ≤ 1000000) ∧ K (some (.inl (y / 4 * 3 + x / 4))) μ
  | _ => False
theorem sp_X11_tileOf_e (x y : Int) (μ : QM) (K : Option QV → QM → Prop) : sp_X11_tileOf [.inl y, .inl x] μ K = ((0 ≤ x ∧ x ≤ 1000000 ∧ 0 ≤ y ∧ y ≤ 1000000) ∧ K (some (.inl (y / 4 * 3 + x / 4))) μ) := propext Iff.rfl
theorem sp_X11_tileOf_i {ra : List QV} {μ : QM} {K : Option QV → QM → Prop} (h : sp_X11_tileOf ra μ K) : ∃ x y : Int, ra = [.inl y, .inl x] ∧ ((0 ≤ x ∧ x ≤ 1000000 ∧ 0 ≤ y ∧ y ≤ 1000000) ∧ K (some (.inl (y / 4 * 3 + x / 4))) μ) := by
  unfold sp_X11_tileOf at h
  split at h
  · exact ⟨_, _, rfl, h⟩
  · exact h.elim
def rm_X11_tileOf : Room := { frames := 0, cells := 0, slots := 0, locals := 0 }
def G_X11_tileOf : Nat → Nat × QP := fun i => match i with
  | _ => (0, fun _ _ _ => False)
set_option maxRecDepth 100000 in
set_option maxHeartbeats 4000000 in
theorem B_X11_tileOf : q_Body cX11_tileOf 2 u_X11_tileOf fl_X11 ld_X11 G_X11_tileOf q_T 0 s_X11_tileOf sp_X11_tileOf := by
  intro S Rt hR ra μ h
  obtain ⟨x, y, rfl, h⟩ := sp_X11_tileOf_i h
  refine ⟨by simp [q_sl, q_ct], ?_⟩
  show S 0 [some (.inl x), some (.inl y)] [] μ
  obtain ⟨h1, h2⟩ := h
  refine hR 40 [] 0 _ _ _ rfl ?_
  simp only [v_opt_n, v_opt_s, v_nil, v_iconst, v_bipush, v_sipush, v_lconst0, v_lconst1, v_ldc, v_ldcw, v_ldc2, v_iload0, v_iload1, v_iload2, v_iload3, v_iload, v_lload0, v_lload1, v_lload2, v_lload3, v_lload, v_aload0, v_aload1, v_aload2, v_aload3, v_aload, v_istore0, v_istore1, v_istore2, v_istore3, v_istore, v_lstore0, v_lstore1, v_lstore2, v_lstore3, v_lstore, v_astore0, v_astore1, v_astore2, v_astore3, v_astore, v_iinc, v_iadd, v_isub, v_imul, v_iand, v_ior, v_ixor, v_ishl, v_ishr, v_iushr, v_ineg, v_idiv, v_irem, v_ladd, v_lsub, v_lmul, v_lcmp, v_i2l, v_l2i, v_i2c, v_dup, v_dup2, v_if_eq, v_if_ne, v_if_lt, v_if_ge, v_if_gt, v_if_le, v_ic_eq, v_ic_ne, v_ic_lt, v_ic_ge, v_ic_gt, v_ic_le, v_goto, v_tsw, v_lsw, v_ireturn, v_areturn, v_return, v_iaload, v_laload, v_baload, v_caload, v_aaload, v_iastore, v_lastore, v_bastore, v_castore, v_alen, v_invvi, v_invst, v_invsp, e_int, e_lng, e_ref, e_lg0, e_lg1, e_lg2, e_lg3, e_lg4, e_lg5, e_lg6, e_lg7, e_lg8, e_lg9, e_lg10, e_lg11, e_lg12, e_lg13, e_clrI, e_clrJ, e_clrP, e_clrN, e_s0, e_s1, e_s2, e_s3, e_s4, e_s5, e_s6, e_s7, e_s8, e_s9, e_s10, e_s11, e_s12, e_s13, e_t0, e_t1, e_t2, e_t3, e_t4, e_t5, e_t6, e_t7, e_t8, e_t9, e_t10, e_t11, e_t12, e_t13, e_fd, e_kk, e_k0, e_k1, e_k2, e_k3, e_k4, e_k5, e_k6, e_k7, e_k8, e_k9, e_sv0, e_sv1, e_sv2, e_sv3, e_svc, e_pf0, e_pf1, e_pf2, e_pf3, e_ar, e_aa, e_al, e_sw1, e_sw2, e_ct0, e_ct1, e_ct2, e_cat0, e_cat1, e_rk0, e_rk1, e_rk2, e_inv0, e_inv1, e_inv2, e_inv3, e_inv4, e_inv5, e_inv6, e_o0, e_o1, e_cl, e_cle, e_cg, e_cge, e_ce, e_cr1, e_cr2, e_r, e_R, e_up, Int.cast_ofNat_Int, u_app, false_and, and_false, e_b0, e_b1, e_bn, e_bl, e_bu, Int.reduceLE, Int.reduceLT, Int.reduceEq, Int.reduceNeg, Int.reduceAdd, Int.reduceSub, Int.reduceMul, Nat.reduceLeDiff, Nat.reduceLT, Nat.reduceAdd, Nat.reduceEqDiff, true_and, and_true, true_or, or_true, false_or, or_false, forall_const, not_true_eq_false, not_false_eq_true, true_implies, false_implies, implies_true, and_self, zero_ne_one, one_ne_zero, eq_self, reduceIte, s_X11_tileOf_0, b_X11_tileOf_0]
  (repeat' (first | (refine And.intro ?_ ?_) | (intro _))) <;> first | omega | assumption | (exfalso; omega)
set_option maxRecDepth 100000 in
theorem C_X11_tileOf {l : Launch} {ad : Int → Nat} {D : va_G} {cy : Nat → ClassId} {Z : State → Prop} (hZ : q_Zg ad Z) : q_Ct l q_T q_N ad D cy Z yX11_tileOf cX11_tileOf 2 (some .int) rm_X11_tileOf sp_X11_tileOf := by
  obtain ⟨hf, hg, hld⟩ := q_chkS k_X11_tileOf
  refine q_met (rk := 0) q_wokT (by decide) rfl hf hg hld rfl (q_skS L_X11_tileOf o_X11_tileOf) ?_ ?_ ?_ ?_ B_X11_tileOf
  · intro i hi; exact absurd hi List.not_mem_nil
  · intro i hi; exact absurd hi List.not_mem_nil
  · intro i hi; exact absurd hi List.not_mem_nil
  · intro i hi; exact absurd hi List.not_mem_nil
theorem cm_X11_tileOf : Cond.code yX11_tileOf cX11_tileOf 2 (some .int) ∈ q_tb := by decide +kernel
def sp_X11_isTile : QP := fun ra μ K => match ra with
  | [.inl t, .inr (.inr this)] => this = 85 ∧ (q_r t ∧ q_r (μ 85 2) ∧ q_r (μ 85 3)) ∧ K (some (.inl (q_b (0 ≤ t ∧ t ≤ 8 ∧ t % 3 * 4 < μ 85 2 ∧ t / 3 * 4 < μ 85 3)))) μ
  | _ => False
theorem sp_X11_isTile_e (this t : Int) (μ : QM) (K : Option QV → QM → Prop) : sp_X11_isTile [.inl t, .inr (.inr this)] μ K = (this = 85 ∧ (q_r t ∧ q_r (μ 85 2) ∧ q_r (μ 85 3)) ∧ K (some (.inl (q_b (0 ≤ t ∧ t ≤ 8 ∧ t % 3 * 4 < μ 85 2 ∧ t / 3 * 4 < μ 85 3)))) μ) := propext Iff.rfl
theorem sp_X11_isTile_i {ra : List QV} {μ : QM} {K : Option QV → QM → Prop} (h : sp_X11_isTile ra μ K) : ∃ this t : Int, ra = [.inl t, .inr (.inr this)] ∧ (this = 85 ∧ (q_r t ∧ q_r (μ 85 2) ∧ q_r (μ 85 3)) ∧ K (some (.inl (q_b (0 ≤ t ∧ t ≤ 8 ∧ t % 3 * 4 < μ 85 2 ∧ t / 3 * 4 < μ 85 3)))) μ) := by
  unfold sp_X11_isTile at h
  split at h
  · exact ⟨_, _, rfl, h⟩
  · exact h.elim
def rm_X11_isTile : Room := { frames := 1, cells := 0, slots := 0, locals := 25 }
def G_X11_isTile : Nat → Nat × QP := fun i => match i with
  | 95 => (3, sp_X11_in)
  | _ => (0, fun _ _ _ => False)
theorem G_X11_isTile_95 : G_X11_isTile 95 = (3, sp_X11_in) := id rfl
set_option maxRecDepth 100000 in
set_option maxHeartbeats 4000000 in
theorem B_X11_isTile : q_Body cX11_isTile 2 u_X11_isTile fl_X11 ld_X11 G_X11_isTile q_T 1 s_X11_isTile sp_X11_isTile := by
  intro S Rt hR ra μ h
  obtain ⟨this, t, rfl, h⟩ := sp_X11_isTile_i h
  refine ⟨by simp [q_sl, q_ct], ?_⟩
  show S 0 [some (.inr (.inr this)), some (.inl t)] [] μ
  obtain ⟨rfl, h1, h2⟩ := h
  refine hR 60 [] 0 _ _ _ rfl ?_
  simp only [v_opt_n, v_opt_s, v_nil, v_iconst, v_bipush, v_sipush, v_lconst0, v_lconst1, v_ldc, v_ldcw, v_ldc2, v_iload0, v_iload1, v_iload2, v_iload3, v_iload, v_lload0, v_lload1, v_lload2, v_lload3, v_lload, v_aload0, v_aload1, v_aload2, v_aload3, v_aload, v_istore0, v_istore1, v_istore2, v_istore3, v_istore, v_lstore0, v_lstore1, v_lstore2, v_lstore3, v_lstore, v_astore0, v_astore1, v_astore2, v_astore3, v_astore, v_iinc, v_iadd, v_isub, v_imul, v_iand, v_ior, v_ixor, v_ishl, v_ishr, v_iushr, v_ineg, v_idiv, v_irem, v_ladd, v_lsub, v_lmul, v_lcmp, v_i2l, v_l2i, v_i2c, v_dup, v_dup2, v_if_eq, v_if_ne, v_if_lt, v_if_ge, v_if_gt, v_if_le, v_ic_eq, v_ic_ne, v_ic_lt, v_ic_ge, v_ic_gt, v_ic_le, v_goto, v_tsw, v_lsw, v_ireturn, v_areturn, v_return, v_iaload, v_laload, v_baload, v_caload, v_aaload, v_iastore, v_lastore, v_bastore, v_castore, v_alen, v_invvi, v_invst, v_invsp, e_int, e_lng, e_ref, e_lg0, e_lg1, e_lg2, e_lg3, e_lg4, e_lg5, e_lg6, e_lg7, e_lg8, e_lg9, e_lg10, e_lg11, e_lg12, e_lg13, e_clrI, e_clrJ, e_clrP, e_clrN, e_s0, e_s1, e_s2, e_s3, e_s4, e_s5, e_s6, e_s7, e_s8, e_s9, e_s10, e_s11, e_s12, e_s13, e_t0, e_t1, e_t2, e_t3, e_t4, e_t5, e_t6, e_t7, e_t8, e_t9, e_t10, e_t11, e_t12, e_t13, e_fd, e_kk, e_k0, e_k1, e_k2, e_k3, e_k4, e_k5, e_k6, e_k7, e_k8, e_k9, e_sv0, e_sv1, e_sv2, e_sv3, e_svc, e_pf0, e_pf1, e_pf2, e_pf3, e_ar, e_aa, e_al, e_sw1, e_sw2, e_ct0, e_ct1, e_ct2, e_cat0, e_cat1, e_rk0, e_rk1, e_rk2, e_inv0, e_inv1, e_inv2, e_inv3, e_inv4, e_inv5, e_inv6, e_o0, e_o1, e_cl, e_cle, e_cg, e_cge, e_ce, e_cr1, e_cr2, e_r, e_R, e_up, Int.cast_ofNat_Int, u_app, false_and, and_false, e_b0, e_b1, e_bn, e_bl, e_bu, Int.reduceLE, Int.reduceLT, Int.reduceEq, Int.reduceNeg, Int.reduceAdd, Int.reduceSub, Int.reduceMul, Nat.reduceLeDiff, Nat.reduceLT, Nat.reduceAdd, Nat.reduceEqDiff, true_and, and_true, true_or, or_true, false_or, or_false, forall_const, not_true_eq_false, not_false_eq_true, true_implies, false_implies, implies_true, and_self, zero_ne_one, one_ne_zero, eq_self, reduceIte, s_X11_isTile_0, b_X11_isTile_0, s_X11_isTile_12, b_X11_isTile_12, s_X11_isTile_24, b_X11_isTile_24, s_X11_isTile_36, b_X11_isTile_36, s_X11_isTile_40, b_X11_isTile_40, s_X11_isTile_41, b_X11_isTile_41, g_X11_7, g_X11_13, ld_X11_132, G_X11_isTile_95, sp_X11_in_e]
  unfold q_b at h2
  split at h2 <;> (repeat' (first | (refine And.intro ?_ ?_) | (intro _))) <;> first | omega | assumption | (exfalso; omega)
set_option maxRecDepth 100000 in
theorem C_X11_isTile {l : Launch} {ad : Int → Nat} {D : va_G} {cy : Nat → ClassId} {Z : State → Prop} (hZ : q_Zg ad Z) : q_Ct l q_T q_N ad D cy Z yX11_isTile cX11_isTile 2 (some .boolean) rm_X11_isTile sp_X11_isTile := by
  obtain ⟨hf, hg, hld⟩ := q_chkS k_X11_isTile
  refine q_met (rk := 1) q_wokT (by decide) rfl hf hg hld rfl (q_skS L_X11_isTile o_X11_isTile) ?_ ?_ ?_ ?_ B_X11_isTile
  · intro i hi; exact absurd hi List.not_mem_nil
  · intro i hi; exact absurd hi List.not_mem_nil
  · intro i hi
    have hi : i = 95 := by simpa [u_X11_isTile] using hi
    rcases hi with rfl
    · exact q_crS hZ.1 (C_X11_in hZ) cm_X11_in (by decide +kernel) (by decide +kernel) (by decide +kernel) (by decide +kernel) ⟨rfl, rfl⟩ (by decide)
  · intro i hi; exact absurd hi List.not_mem_nil
theorem rv_X11_isTile : q_rcv q_T yX11_isTile.cls sp_X11_isTile := by
  intro ra μ K h
  obtain ⟨this, t, rfl, h⟩ := sp_X11_isTile_i h
  obtain rfl := h.1
  exact ⟨[.inl t], 85, 11, _, _, rfl, T_85, rfl, rfl⟩
theorem cm_X11_isTile : Cond.code yX11_isTile cX11_isTile 2 (some .boolean) ∈ q_tb := by decide +kernel
def sp_X11_isBoard : QP := fun ra μ K => match ra with
  | [.inl b, .inr (.inr this)] => this = 85 ∧ (q_r b ∧ q_r (μ 85 7)) ∧ K (some (.inl (q_b (0 ≤ b ∧ b < μ 85 7)))) μ
  | _ => False
theorem sp_X11_isBoard_e (this b : Int) (μ : QM) (K : Option QV → QM → Prop) : sp_X11_isBoard [.inl b, .inr (.inr this)] μ K = (this = 85 ∧ (q_r b ∧ q_r (μ 85 7)) ∧ K (some (.inl (q_b (0 ≤ b ∧ b < μ 85 7)))) μ) := propext Iff.rfl
theorem sp_X11_isBoard_i {ra : List QV} {μ : QM} {K : Option QV → QM → Prop} (h : sp_X11_isBoard ra μ K) : ∃ this b : Int, ra = [.inl b, .inr (.inr this)] ∧ (this = 85 ∧ (q_r b ∧ q_r (μ 85 7)) ∧ K (some (.inl (q_b (0 ≤ b ∧ b < μ 85 7)))) μ) := by
  unfold sp_X11_isBoard at h
  split at h
  · exact ⟨_, _, rfl, h⟩
  · exact h.elim
def rm_X11_isBoard : Room := { frames := 1, cells := 0, slots := 0, locals := 25 }
def G_X11_isBoard : Nat → Nat × QP := fun i => match i with
  | 95 => (3, sp_X11_in)
  | _ => (0, fun _ _ _ => False)
theorem G_X11_isBoard_95 : G_X11_isBoard 95 = (3, sp_X11_in) := id rfl
set_option maxRecDepth 100000 in
set_option maxHeartbeats 4000000 in
theorem B_X11_isBoard : q_Body cX11_isBoard 2 u_X11_isBoard fl_X11 ld_X11 G_X11_isBoard q_T 1 s_X11_isBoard sp_X11_isBoard := by
  intro S Rt hR ra μ h
  obtain ⟨this, b, rfl, h⟩ := sp_X11_isBoard_i h
  refine ⟨by simp [q_sl, q_ct], ?_⟩
  show S 0 [some (.inr (.inr this)), some (.inl b)] [] μ
  obtain ⟨rfl, h1, h2⟩ := h
  rw [q_bc (d := 0 ≤ b ∧ b ≤ μ 85 7 - 1) (by omega)] at h2
  refine hR 60 [] 0 _ _ _ rfl ?_
  simp only [v_opt_n, v_opt_s, v_nil, v_iconst, v_bipush, v_sipush, v_lconst0, v_lconst1, v_ldc, v_ldcw, v_ldc2, v_iload0, v_iload1, v_iload2, v_iload3, v_iload, v_lload0, v_lload1, v_lload2, v_lload3, v_lload, v_aload0, v_aload1, v_aload2, v_aload3, v_aload, v_istore0, v_istore1, v_istore2, v_istore3, v_istore, v_lstore0, v_lstore1, v_lstore2, v_lstore3, v_lstore, v_astore0, v_astore1, v_astore2, v_astore3, v_astore, v_iinc, v_iadd, v_isub, v_imul, v_iand, v_ior, v_ixor, v_ishl, v_ishr, v_iushr, v_ineg, v_idiv, v_irem, v_ladd, v_lsub, v_lmul, v_lcmp, v_i2l, v_l2i, v_i2c, v_dup, v_dup2, v_if_eq, v_if_ne, v_if_lt, v_if_ge, v_if_gt, v_if_le, v_ic_eq, v_ic_ne, v_ic_lt, v_ic_ge, v_ic_gt, v_ic_le, v_goto, v_tsw, v_lsw, v_ireturn, v_areturn, v_return, v_iaload, v_laload, v_baload, v_caload, v_aaload, v_iastore, v_lastore, v_bastore, v_castore, v_alen, v_invvi, v_invst, v_invsp, e_int, e_lng, e_ref, e_lg0, e_lg1, e_lg2, e_lg3, e_lg4, e_lg5, e_lg6, e_lg7, e_lg8, e_lg9, e_lg10, e_lg11, e_lg12, e_lg13, e_clrI, e_clrJ, e_clrP, e_clrN, e_s0, e_s1, e_s2, e_s3, e_s4, e_s5, e_s6, e_s7, e_s8, e_s9, e_s10, e_s11, e_s12, e_s13, e_t0, e_t1, e_t2, e_t3, e_t4, e_t5, e_t6, e_t7, e_t8, e_t9, e_t10, e_t11, e_t12, e_t13, e_fd, e_kk, e_k0, e_k1, e_k2, e_k3, e_k4, e_k5, e_k6, e_k7, e_k8, e_k9, e_sv0, e_sv1, e_sv2, e_sv3, e_svc, e_pf0, e_pf1, e_pf2, e_pf3, e_ar, e_aa, e_al, e_sw1, e_sw2, e_ct0, e_ct1, e_ct2, e_cat0, e_cat1, e_rk0, e_rk1, e_rk2, e_inv0, e_inv1, e_inv2, e_inv3, e_inv4, e_inv5, e_inv6, e_o0, e_o1, e_cl, e_cle, e_cg, e_cge, e_ce, e_cr1, e_cr2, e_r, e_R, e_up, Int.cast_ofNat_Int, u_app, false_and, and_false, e_b0, e_b1, e_bn, e_bl, e_bu, Int.reduceLE, Int.reduceLT, Int.reduceEq, Int.reduceNeg, Int.reduceAdd, Int.reduceSub, Int.reduceMul, Nat.reduceLeDiff, Nat.reduceLT, Nat.reduceAdd, Nat.reduceEqDiff, true_and, and_true, true_or, or_true, false_or, or_false, forall_const, not_true_eq_false, not_false_eq_true, true_implies, false_implies, implies_true, and_self, zero_ne_one, one_ne_zero, eq_self, reduceIte, s_X11_isBoard_0, b_X11_isBoard_0, g_X11_125, G_X11_isBoard_95, sp_X11_in_e]
  (repeat' (first | (refine And.intro ?_ ?_) | (intro _))) <;> first | omega | assumption | (exfalso; omega)
set_option maxRecDepth 100000 in
theorem C_X11_isBoard {l : Launch} {ad : Int → Nat} {D : va_G} {cy : Nat → ClassId} {Z : State → Prop} (hZ : q_Zg ad Z) : q_Ct l q_T q_N ad D cy Z yX11_isBoard cX11_isBoard 2 (some .boolean) rm_X11_isBoard sp_X11_isBoard := by
  obtain ⟨hf, hg, hld⟩ := q_chkS k_X11_isBoard
  refine q_met (rk := 1) q_wokT (by decide) rfl hf hg hld rfl (q_skS L_X11_isBoard o_X11_isBoard) ?_ ?_ ?_ ?_ B_X11_isBoard
  · intro i hi; exact absurd hi List.not_mem_nil
  · intro i hi; exact absurd hi List.not_mem_nil
  · intro i hi
    have hi : i = 95 := by simpa [u_X11_isBoard] using hi
    rcases hi with rfl
    · exact q_crS hZ.1 (C_X11_in hZ) cm_X11_in (by decide +kernel) (by decide +kernel) (by decide +kernel) (by decide +kernel) ⟨rfl, rfl⟩ (by decide)
  · intro i hi; exact absurd hi List.not_mem_nil
theorem rv_X11_isBoard : q_rcv q_T yX11_isBoard.cls sp_X11_isBoard := by
  intro ra μ K h
  obtain ⟨this, b, rfl, h⟩ := sp_X11_isBoard_i h
  obtain rfl := h.1
  exact ⟨[.inl b], 85, 11, _, _, rfl, T_85, rfl, rfl⟩
theorem cm_X11_isBoard : Cond.code yX11_isBoard cX11_isBoard 2 (some .boolean) ∈ q_tb := by decide +kernel
def sp_X11_begin : QP := fun ra μ K => match ra with
  | [.inr (.inr this)] => this = 85 ∧ K none (q_up (q_up (q_up (q_up μ 85 17 0) 85 18 0) 85 19 0) 85 20 0)
  | _ => False
theorem sp_X11_begin_e (this : Int) (μ : QM) (K : Option QV → QM → Prop) : sp_X11_begin [.inr (.inr this)] μ K = (this = 85 ∧ K none (q_up (q_up (q_up (q_up μ 85 17 0) 85 18 0) 85 19 0) 85 20 0)) := propext Iff.rfl
theorem sp_X11_begin_i {ra : List QV} {μ : QM} {K : Option QV → QM → Prop} (h : sp_X11_begin ra μ K) : ∃ this : Int, ra = [.inr (.inr this)] ∧ (this = 85 ∧ K none (q_up (q_up (q_up (q_up μ 85 17 0) 85 18 0) 85 19 0) 85 20 0)) := by
  unfold sp_X11_begin at h
  split at h
  · exact ⟨_, rfl, h⟩
  · exact h.elim
def rm_X11_begin : Room := { frames := 0, cells := 0, slots := 0, locals := 0 }
def G_X11_begin : Nat → Nat × QP := fun i => match i with
  | _ => (0, fun _ _ _ => False)
set_option maxRecDepth 100000 in
set_option maxHeartbeats 4000000 in
theorem B_X11_begin : q_Body cX11_begin 1 u_X11_begin fl_X11 ld_X11 G_X11_begin q_T 4 s_X11_begin sp_X11_begin := by
  intro S Rt hR ra μ h
  obtain ⟨this, rfl, h⟩ := sp_X11_begin_i h
  refine ⟨by simp [q_sl, q_ct], ?_⟩
  show S 0 [some (.inr (.inr this))] [] μ
  obtain ⟨rfl, h2⟩ := h
  refine hR 60 [] 0 _ _ _ rfl ?_
  simp only [v_opt_n, v_opt_s, v_nil, v_iconst, v_bipush, v_sipush, v_lconst0, v_lconst1, v_ldc, v_ldcw, v_ldc2, v_iload0, v_iload1, v_iload2, v_iload3, v_iload, v_lload0, v_lload1, v_lload2, v_lload3, v_lload, v_aload0, v_aload1, v_aload2, v_aload3, v_aload, v_istore0, v_istore1, v_istore2, v_istore3, v_istore, v_lstore0, v_lstore1, v_lstore2, v_lstore3, v_lstore, v_astore0, v_astore1, v_astore2, v_astore3, v_astore, v_iinc, v_iadd, v_isub, v_imul, v_iand, v_ior, v_ixor, v_ishl, v_ishr, v_iushr, v_ineg, v_idiv, v_irem, v_ladd, v_lsub, v_lmul, v_lcmp, v_i2l, v_l2i, v_i2c, v_dup, v_dup2, v_if_eq, v_if_ne, v_if_lt, v_if_ge, v_if_gt, v_if_le, v_ic_eq, v_ic_ne, v_ic_lt, v_ic_ge, v_ic_gt, v_ic_le, v_goto, v_tsw, v_lsw, v_ireturn, v_areturn, v_return, v_iaload, v_laload, v_baload, v_caload, v_aaload, v_iastore, v_lastore, v_bastore, v_castore, v_alen, v_invvi, v_invst, v_invsp, e_int, e_lng, e_ref, e_lg0, e_lg1, e_lg2, e_lg3, e_lg4, e_lg5, e_lg6, e_lg7, e_lg8, e_lg9, e_lg10, e_lg11, e_lg12, e_lg13, e_clrI, e_clrJ, e_clrP, e_clrN, e_s0, e_s1, e_s2, e_s3, e_s4, e_s5, e_s6, e_s7, e_s8, e_s9, e_s10, e_s11, e_s12, e_s13, e_t0, e_t1, e_t2, e_t3, e_t4, e_t5, e_t6, e_t7, e_t8, e_t9, e_t10, e_t11, e_t12, e_t13, e_fd, e_kk, e_k0, e_k1, e_k2, e_k3, e_k4, e_k5, e_k6, e_k7, e_k8, e_k9, e_sv0, e_sv1, e_sv2, e_sv3, e_svc, e_pf0, e_pf1, e_pf2, e_pf3, e_ar, e_aa, e_al, e_sw1, e_sw2, e_ct0, e_ct1, e_ct2, e_cat0, e_cat1, e_rk0, e_rk1, e_rk2, e_inv0, e_inv1, e_inv2, e_inv3, e_inv4, e_inv5, e_inv6, e_o0, e_o1, e_cl, e_cle, e_cg, e_cge, e_ce, e_cr1, e_cr2, e_r, e_R, e_up, Int.cast_ofNat_Int, u_app, false_and, and_false, e_b0, e_b1, e_bn, e_bl, e_bu, Int.reduceLE, Int.reduceLT, Int.reduceEq, Int.reduceNeg, Int.reduceAdd, Int.reduceSub, Int.reduceMul, Nat.reduceLeDiff, Nat.reduceLT, Nat.reduceAdd, Nat.reduceEqDiff, true_and, and_true, true_or, or_true, false_or, or_false, forall_const, not_true_eq_false, not_false_eq_true, true_implies, false_implies, implies_true, and_self, zero_ne_one, one_ne_zero, eq_self, reduceIte, s_X11_begin_0, b_X11_begin_0, g_X11_155, p_X11_155, g_X11_158, p_X11_158, g_X11_162, p_X11_162, g_X11_165, p_X11_165]
  (repeat' (first | (refine And.intro ?_ ?_) | (intro _))) <;> first | omega | assumption | (exfalso; omega)
set_option maxRecDepth 100000 in
theorem C_X11_begin {l : Launch} {ad : Int → Nat} {D : va_G} {cy : Nat → ClassId} {Z : State → Prop} (hZ : q_Zg ad Z) : q_Ct l q_T q_N ad D cy Z yX11_begin cX11_begin 1 none rm_X11_begin sp_X11_begin := by
  obtain ⟨hf, hg, hld⟩ := q_chkS k_X11_begin
  refine q_met (rk := 4) q_wokT (by decide) rfl hf hg hld rfl (q_skS L_X11_begin o_X11_begin) ?_ ?_ ?_ ?_ B_X11_begin
  · intro i hi; exact absurd hi List.not_mem_nil
  · intro i hi; exact absurd hi List.not_mem_nil
  · intro i hi; exact absurd hi List.not_mem_nil
  · intro i hi; exact absurd hi List.not_mem_nil
theorem rv_X11_begin : q_rcv q_T yX11_begin.cls sp_X11_begin := by
  intro ra μ K h
  obtain ⟨this, rfl, h⟩ := sp_X11_begin_i h
  obtain rfl := h.1
  exact ⟨[], 85, 11, _, _, rfl, T_85, rfl, rfl⟩
theorem cm_X11_begin : Cond.code yX11_begin cX11_begin 1 none ∈ q_tb := by decide +kernel
def sp_X11_kept : QP := fun ra μ K => match ra with
  | [.inr (.inl v)] => q_R v ∧ K (some (.inl (q_kept v))) μ
  | _ => False
theorem sp_X11_kept_e (v : Int) (μ : QM) (K : Option QV → QM → Prop) : sp_X11_kept [.inr (.inl v)] μ K = (q_R v ∧ K (some (.inl (q_kept v))) μ) := propext Iff.rfl
theorem sp_X11_kept_i {ra : List QV} {μ : QM} {K : Option QV → QM → Prop} (h : sp_X11_kept ra μ K) : ∃ v : Int, ra = [.inr (.inl v)] ∧ (q_R v ∧ K (some (.inl (q_kept v))) μ) := by
  unfold sp_X11_kept at h
  split at h
  · exact ⟨_, rfl, h⟩
  · exact h.elim
def rm_X11_kept : Room := { frames := 1, cells := 0, slots := 0, locals := 25 }
def G_X11_kept : Nat → Nat × QP := fun i => match i with
  | 95 => (3, sp_X11_in)
  | _ => (0, fun _ _ _ => False)
theorem G_X11_kept_95 : G_X11_kept 95 = (3, sp_X11_in) := id rfl
set_option maxRecDepth 100000 in
set_option maxHeartbeats 4000000 in
theorem B_X11_kept : q_Body cX11_kept 2 u_X11_kept fl_X11 ld_X11 G_X11_kept q_T 0 s_X11_kept sp_X11_kept := by
  intro S Rt hR ra μ h
  obtain ⟨v, rfl, h⟩ := sp_X11_kept_i h
  refine ⟨by simp [q_sl, q_ct], ?_⟩
  show S 0 [some (.inr (.inl v)), none] [] μ
  obtain ⟨h1, h2⟩ := h
  refine hR 60 [] 0 _ _ _ rfl ?_
  simp only [v_opt_n, v_opt_s, v_nil, v_iconst, v_bipush, v_sipush, v_lconst0, v_lconst1, v_ldc, v_ldcw, v_ldc2, v_iload0, v_iload1, v_iload2, v_iload3, v_iload, v_lload0, v_lload1, v_lload2, v_lload3, v_lload, v_aload0, v_aload1, v_aload2, v_aload3, v_aload, v_istore0, v_istore1, v_istore2, v_istore3, v_istore, v_lstore0, v_lstore1, v_lstore2, v_lstore3, v_lstore, v_astore0, v_astore1, v_astore2, v_astore3, v_astore, v_iinc, v_iadd, v_isub, v_imul, v_iand, v_ior, v_ixor, v_ishl, v_ishr, v_iushr, v_ineg, v_idiv, v_irem, v_ladd, v_lsub, v_lmul, v_lcmp, v_i2l, v_l2i, v_i2c, v_dup, v_dup2, v_if_eq, v_if_ne, v_if_lt, v_if_ge, v_if_gt, v_if_le, v_ic_eq, v_ic_ne, v_ic_lt, v_ic_ge, v_ic_gt, v_ic_le, v_goto, v_tsw, v_lsw, v_ireturn, v_areturn, v_return, v_iaload, v_laload, v_baload, v_caload, v_aaload, v_iastore, v_lastore, v_bastore, v_castore, v_alen, v_invvi, v_invst, v_invsp, e_int, e_lng, e_ref, e_lg0, e_lg1, e_lg2, e_lg3, e_lg4, e_lg5, e_lg6, e_lg7, e_lg8, e_lg9, e_lg10, e_lg11, e_lg12, e_lg13, e_clrI, e_clrJ, e_clrP, e_clrN, e_s0, e_s1, e_s2, e_s3, e_s4, e_s5, e_s6, e_s7, e_s8, e_s9, e_s10, e_s11, e_s12, e_s13, e_t0, e_t1, e_t2, e_t3, e_t4, e_t5, e_t6, e_t7, e_t8, e_t9, e_t10, e_t11, e_t12, e_t13, e_fd, e_kk, e_k0, e_k1, e_k2, e_k3, e_k4, e_k5, e_k6, e_k7, e_k8, e_k9, e_sv0, e_sv1, e_sv2, e_sv3, e_svc, e_pf0, e_pf1, e_pf2, e_pf3, e_ar, e_aa, e_al, e_sw1, e_sw2, e_ct0, e_ct1, e_ct2, e_cat0, e_cat1, e_rk0, e_rk1, e_rk2, e_inv0, e_inv1, e_inv2, e_inv3, e_inv4, e_inv5, e_inv6, e_o0, e_o1, e_cl, e_cle, e_cg, e_cge, e_ce, e_cr1, e_cr2, e_r, e_R, e_up, Int.cast_ofNat_Int, u_app, false_and, and_false, e_b0, e_b1, e_bn, e_bl, e_bu, Int.reduceLE, Int.reduceLT, Int.reduceEq, Int.reduceNeg, Int.reduceAdd, Int.reduceSub, Int.reduceMul, Nat.reduceLeDiff, Nat.reduceLT, Nat.reduceAdd, Nat.reduceEqDiff, true_and, and_true, true_or, or_true, false_or, or_false, forall_const, not_true_eq_false, not_false_eq_true, true_implies, false_implies, implies_true, and_self, zero_ne_one, one_ne_zero, eq_self, reduceIte, s_X11_kept_0, b_X11_kept_0, s_X11_kept_13, b_X11_kept_13, s_X11_kept_18, b_X11_kept_18, s_X11_kept_20, b_X11_kept_20, ld_X11_168, ld_X11_170, ld_X11_91, G_X11_kept_95, sp_X11_in_e]
  unfold q_kept at h2
  split at h2 <;> (repeat' (first | (refine And.intro ?_ ?_) | (intro _))) <;> first | omega | assumption | (exfalso; omega)
set_option maxRecDepth 100000 in
theorem C_X11_kept {l : Launch} {ad : Int → Nat} {D : va_G} {cy : Nat → ClassId} {Z : State → Prop} (hZ : q_Zg ad Z) : q_Ct l q_T q_N ad D cy Z yX11_kept cX11_kept 2 (some .int) rm_X11_kept sp_X11_kept := by
  obtain ⟨hf, hg, hld⟩ := q_chkS k_X11_kept
  refine q_met (rk := 0) q_wokT (by decide) rfl hf hg hld rfl (q_skS L_X11_kept o_X11_kept) ?_ ?_ ?_ ?_ B_X11_kept
  · intro i hi; exact absurd hi List.not_mem_nil
  · intro i hi; exact absurd hi List.not_mem_nil
  · intro i hi
    have hi : i = 95 := by simpa [u_X11_kept] using hi
    rcases hi with rfl
    · exact q_crS hZ.1 (C_X11_in hZ) cm_X11_in (by decide +kernel) (by decide +kernel) (by decide +kernel) (by decide +kernel) ⟨rfl, rfl⟩ (by decide)
  · intro i hi; exact absurd hi List.not_mem_nil
theorem cm_X11_kept : Cond.code yX11_kept cX11_kept 2 (some .int) ∈ q_tb := by decide +kernel
def sp_X11_taken : QP := fun ra μ K => match ra with
  | [.inl how, .inr (.inr this)] => this = 85 ∧ (q_r how ∧ q_r (μ 85 17) ∧ q_R (μ 85 18) ∧ q_R (μ 85 19) ∧ q_R (μ 85 20)) ∧ K (some (.inl (q_taken how (μ 85 17) (μ 85 18) (μ 85 19) (μ 85 20)))) μ
  | _ => False
theorem sp_X11_taken_e (this how : Int) (μ : QM) (K : Option QV → QM → Prop) : sp_X11_taken [.inl how, .inr (.inr this)] μ K = (this = 85 ∧ (q_r how ∧ q_r (μ 85 17) ∧ q_R (μ 85 18) ∧ q_R (μ 85 19) ∧ q_R (μ 85 20)) ∧ K (some (.inl (q_taken how (μ 85 17) (μ 85 18) (μ 85 19) (μ 85 20)))) μ) := propext Iff.rfl
theorem sp_X11_taken_i {ra : List QV} {μ : QM} {K : Option QV → QM → Prop} (h : sp_X11_taken ra μ K) : ∃ this how : Int, ra = [.inl how, .inr (.inr this)] ∧ (this = 85 ∧ (q_r how ∧ q_r (μ 85 17) ∧ q_R (μ 85 18) ∧ q_R (μ 85 19) ∧ q_R (μ 85 20)) ∧ K (some (.inl (q_taken how (μ 85 17) (μ 85 18) (μ 85 19) (μ 85 20)))) μ) := by
  unfold sp_X11_taken at h
  split at h
  · exact ⟨_, _, rfl, h⟩
  · exact h.elim
def rm_X11_taken : Room := { frames := 2, cells := 0, slots := 0, locals := 46 }
def G_X11_taken : Nat → Nat × QP := fun i => match i with
  | 172 => (1, sp_X11_kept)
  | _ => (0, fun _ _ _ => False)
theorem G_X11_taken_172 : G_X11_taken 172 = (1, sp_X11_kept) := id rfl
set_option maxRecDepth 100000 in
set_option maxHeartbeats 4000000 in
theorem B_X11_taken : q_Body cX11_taken 2 u_X11_taken fl_X11 ld_X11 G_X11_taken q_T 0 s_X11_taken sp_X11_taken := by
  intro S Rt hR ra μ h
  obtain ⟨this, how, rfl, h⟩ := sp_X11_taken_i h
  refine ⟨by simp [q_sl, q_ct], ?_⟩
  show S 0 [some (.inr (.inr this)), some (.inl how)] [] μ
  obtain ⟨rfl, h1, h2⟩ := h
  refine hR 80 [] 0 _ _ _ rfl ?_
  simp only [v_opt_n, v_opt_s, v_nil, v_iconst, v_bipush, v_sipush, v_lconst0, v_lconst1, v_ldc, v_ldcw, v_ldc2, v_iload0, v_iload1, v_iload2, v_iload3, v_iload, v_lload0, v_lload1, v_lload2, v_lload3, v_lload, v_aload0, v_aload1, v_aload2, v_aload3, v_aload, v_istore0, v_istore1, v_istore2, v_istore3, v_istore, v_lstore0, v_lstore1, v_lstore2, v_lstore3, v_lstore, v_astore0, v_astore1, v_astore2, v_astore3, v_astore, v_iinc, v_iadd, v_isub, v_imul, v_iand, v_ior, v_ixor, v_ishl, v_ishr, v_iushr, v_ineg, v_idiv, v_irem, v_ladd, v_lsub, v_lmul, v_lcmp, v_i2l, v_l2i, v_i2c, v_dup, v_dup2, v_if_eq, v_if_ne, v_if_lt, v_if_ge, v_if_gt, v_if_le, v_ic_eq, v_ic_ne, v_ic_lt, v_ic_ge, v_ic_gt, v_ic_le, v_goto, v_tsw, v_lsw, v_ireturn, v_areturn, v_return, v_iaload, v_laload, v_baload, v_caload, v_aaload, v_iastore, v_lastore, v_bastore, v_castore, v_alen, v_invvi, v_invst, v_invsp, e_int, e_lng, e_ref, e_lg0, e_lg1, e_lg2, e_lg3, e_lg4, e_lg5, e_lg6, e_lg7, e_lg8, e_lg9, e_lg10, e_lg11, e_lg12, e_lg13, e_clrI, e_clrJ, e_clrP, e_clrN, e_s0, e_s1, e_s2, e_s3, e_s4, e_s5, e_s6, e_s7, e_s8, e_s9, e_s10, e_s11, e_s12, e_s13, e_t0, e_t1, e_t2, e_t3, e_t4, e_t5, e_t6, e_t7, e_t8, e_t9, e_t10, e_t11, e_t12, e_t13, e_fd, e_kk, e_k0, e_k1, e_k2, e_k3, e_k4, e_k5, e_k6, e_k7, e_k8, e_k9, e_sv0, e_sv1, e_sv2, e_sv3, e_svc, e_pf0, e_pf1, e_pf2, e_pf3, e_ar, e_aa, e_al, e_sw1, e_sw2, e_ct0, e_ct1, e_ct2, e_cat0, e_cat1, e_rk0, e_rk1, e_rk2, e_inv0, e_inv1, e_inv2, e_inv3, e_inv4, e_inv5, e_inv6, e_o0, e_o1, e_cl, e_cle, e_cg, e_cge, e_ce, e_cr1, e_cr2, e_r, e_R, e_up, Int.cast_ofNat_Int, u_app, false_and, and_false, e_b0, e_b1, e_bn, e_bl, e_bu, Int.reduceLE, Int.reduceLT, Int.reduceEq, Int.reduceNeg, Int.reduceAdd, Int.reduceSub, Int.reduceMul, Nat.reduceLeDiff, Nat.reduceLT, Nat.reduceAdd, Nat.reduceEqDiff, true_and, and_true, true_or, or_true, false_or, or_false, forall_const, not_true_eq_false, not_false_eq_true, true_implies, false_implies, implies_true, and_self, zero_ne_one, one_ne_zero, eq_self, reduceIte, s_X11_taken_0, b_X11_taken_0, s_X11_taken_6, b_X11_taken_6, s_X11_taken_11, b_X11_taken_11, s_X11_taken_18, b_X11_taken_18, s_X11_taken_23, b_X11_taken_23, s_X11_taken_29, b_X11_taken_29, s_X11_taken_36, b_X11_taken_36, s_X11_taken_41, b_X11_taken_41, s_X11_taken_48, b_X11_taken_48, s_X11_taken_52, b_X11_taken_52, s_X11_taken_55, b_X11_taken_55, g_X11_155, g_X11_158, g_X11_162, g_X11_165, ld_X11_91, G_X11_taken_172, sp_X11_kept_e]
  unfold q_taken at h2
  (repeat' split at h2) <;> (repeat' (first | (refine And.intro ?_ ?_) | (intro _))) <;> first | omega | assumption | (exfalso; omega)
set_option maxRecDepth 100000 in
theorem C_X11_taken {l : Launch} {ad : Int → Nat} {D : va_G} {cy : Nat → ClassId} {Z : State → Prop} (hZ : q_Zg ad Z) : q_Ct l q_T q_N ad D cy Z yX11_taken cX11_taken 2 (some .int) rm_X11_taken sp_X11_taken := by
  obtain ⟨hf, hg, hld⟩ := q_chkS k_X11_taken
  refine q_met (rk := 0) q_wokT (by decide) rfl hf hg hld rfl (q_skS L_X11_taken o_X11_taken) ?_ ?_ ?_ ?_ B_X11_taken
  · intro i hi; exact absurd hi List.not_mem_nil
  · intro i hi; exact absurd hi List.not_mem_nil
  · intro i hi
    have hi : i = 172 := by simpa [u_X11_taken] using hi
    rcases hi with rfl
    · exact q_crS hZ.1 (C_X11_kept hZ) cm_X11_kept (by decide +kernel) (by decide +kernel) (by decide +kernel) (by decide +kernel) ⟨rfl, rfl⟩ (by decide)
  · intro i hi; exact absurd hi List.not_mem_nil
theorem rv_X11_taken : q_rcv q_T yX11_taken.cls sp_X11_taken := by
  intro ra μ K h
  obtain ⟨this, how, rfl, h⟩ := sp_X11_taken_i h
  obtain rfl := h.1
  exact ⟨[.inl how], 85, 11, _, _, rfl, T_85, rfl, rfl⟩
theorem cm_X11_taken : Cond.code yX11_taken cX11_taken 2 (some .int) ∈ q_tb := by decide +kernel
def sp_X11_at : QP := fun ra μ K => match ra with
  | [.inl y, .inl x, .inl board, .inr (.inr this)] => this = 85 ∧ (0 ≤ board ∧ board < 10 ∧ 0 ≤ x ∧ x < 12 ∧ 0 ≤ y ∧ y < 12) ∧ K (some (.inl (μ 96 (144 * board + 12 * y + x)))) μ
  | _ => False
theorem sp_X11_at_e (this board x y : Int) (μ : QM) (K : Option QV → QM → Prop) : sp_X11_at [.inl y, .inl x, .inl board, .inr (.inr this)] μ K = (this = 85 ∧ (0 ≤ board ∧ board < 10 ∧ 0 ≤ x ∧ x < 12 ∧ 0 ≤ y ∧ y < 12) ∧ K (some (.inl (μ 96 (144 * board + 12 * y + x)))) μ) := propext Iff.rfl
theorem sp_X11_at_i {ra : List QV} {μ : QM} {K : Option QV → QM → Prop} (h : sp_X11_at ra μ K) : ∃ this board x y : Int, ra = [.inl y, .inl x, .inl board, .inr (.inr this)] ∧ (this = 85 ∧ (0 ≤ board ∧ board < 10 ∧ 0 ≤ x ∧ x < 12 ∧ 0 ≤ y ∧ y < 12) ∧ K (some (.inl (μ 96 (144 * board + 12 * y + x)))) μ) := by
  unfold sp_X11_at at h
  split at h
  · exact ⟨_, _, _, _, rfl, h⟩
  · exact h.elim
def rm_X11_at : Room := { frames := 0, cells := 0, slots := 0, locals := 0 }
def G_X11_at : Nat → Nat × QP := fun i => match i with
  | _ => (0, fun _ _ _ => False)
set_option maxRecDepth 100000 in
set_option maxHeartbeats 4000000 in
theorem B_X11_at : q_Body cX11_at 4 u_X11_at fl_X11 ld_X11 G_X11_at q_T 0 s_X11_at sp_X11_at := by
  intro S Rt hR ra μ h
  obtain ⟨this, board, x, y, rfl, h⟩ := sp_X11_at_i h
  refine ⟨by simp [q_sl, q_ct], ?_⟩
  show S 0 [some (.inr (.inr this)), some (.inl board), some (.inl x), some (.inl y)] [] μ
  obtain ⟨rfl, h1, h2⟩ := h
  refine hR 60 [] 0 _ _ _ rfl ?_
  simp only [v_opt_n, v_opt_s, v_nil, v_iconst, v_bipush, v_sipush, v_lconst0, v_lconst1, v_ldc, v_ldcw, v_ldc2, v_iload0, v_iload1, v_iload2, v_iload3, v_iload, v_lload0, v_lload1, v_lload2, v_lload3, v_lload, v_aload0, v_aload1, v_aload2, v_aload3, v_aload, v_istore0, v_istore1, v_istore2, v_istore3, v_istore, v_lstore0, v_lstore1, v_lstore2, v_lstore3, v_lstore, v_astore0, v_astore1, v_astore2, v_astore3, v_astore, v_iinc, v_iadd, v_isub, v_imul, v_iand, v_ior, v_ixor, v_ishl, v_ishr, v_iushr, v_ineg, v_idiv, v_irem, v_ladd, v_lsub, v_lmul, v_lcmp, v_i2l, v_l2i, v_i2c, v_dup, v_dup2, v_if_eq, v_if_ne, v_if_lt, v_if_ge, v_if_gt, v_if_le, v_ic_eq, v_ic_ne, v_ic_lt, v_ic_ge, v_ic_gt, v_ic_le, v_goto, v_tsw, v_lsw, v_ireturn, v_areturn, v_return, v_iaload, v_laload, v_baload, v_caload, v_aaload, v_iastore, v_lastore, v_bastore, v_castore, v_alen, v_invvi, v_invst, v_invsp, e_int, e_lng, e_ref, e_lg0, e_lg1, e_lg2, e_lg3, e_lg4, e_lg5, e_lg6, e_lg7, e_lg8, e_lg9, e_lg10, e_lg11, e_lg12, e_lg13, e_clrI, e_clrJ, e_clrP, e_clrN, e_s0, e_s1, e_s2, e_s3, e_s4, e_s5, e_s6, e_s7, e_s8, e_s9, e_s10, e_s11, e_s12, e_s13, e_t0, e_t1, e_t2, e_t3, e_t4, e_t5, e_t6, e_t7, e_t8, e_t9, e_t10, e_t11, e_t12, e_t13, e_fd, e_kk, e_k0, e_k1, e_k2, e_k3, e_k4, e_k5, e_k6, e_k7, e_k8, e_k9, e_sv0, e_sv1, e_sv2, e_sv3, e_svc, e_pf0, e_pf1, e_pf2, e_pf3, e_ar, e_aa, e_al, e_sw1, e_sw2, e_ct0, e_ct1, e_ct2, e_cat0, e_cat1, e_rk0, e_rk1, e_rk2, e_inv0, e_inv1, e_inv2, e_inv3, e_inv4, e_inv5, e_inv6, e_o0, e_o1, e_cl, e_cle, e_cg, e_cge, e_ce, e_cr1, e_cr2, e_r, e_R, e_up, Int.cast_ofNat_Int, u_app, false_and, and_false, e_b0, e_b1, e_bn, e_bl, e_bu, Int.reduceLE, Int.reduceLT, Int.reduceEq, Int.reduceNeg, Int.reduceAdd, Int.reduceSub, Int.reduceMul, Nat.reduceLeDiff, Nat.reduceLT, Nat.reduceAdd, Nat.reduceEqDiff, true_and, and_true, true_or, or_true, false_or, or_false, forall_const, not_true_eq_false, not_false_eq_true, true_implies, false_implies, implies_true, and_self, zero_ne_one, one_ne_zero, eq_self, reduceIte, s_X11_at_0, b_X11_at_0, g_X11_48, T_96]
  (repeat' (first | (refine And.intro ?_ ?_) | (intro _))) <;> first | omega | assumption | (exfalso; omega)
set_option maxRecDepth 100000 in
theorem C_X11_at {l : Launch} {ad : Int → Nat} {D : va_G} {cy : Nat → ClassId} {Z : State → Prop} (hZ : q_Zg ad Z) : q_Ct l q_T q_N ad D cy Z yX11_at cX11_at 4 (some .int) rm_X11_at sp_X11_at := by
  obtain ⟨hf, hg, hld⟩ := q_chkS k_X11_at
  refine q_met (rk := 0) q_wokT (by decide) rfl hf hg hld rfl (q_skS L_X11_at o_X11_at) ?_ ?_ ?_ ?_ B_X11_at
  · intro i hi; exact absurd hi List.not_mem_nil
  · intro i hi; exact absurd hi List.not_mem_nil
  · intro i hi; exact absurd hi List.not_mem_nil
  · intro i hi; exact absurd hi List.not_mem_nil
theorem rv_X11_at : q_rcv q_T yX11_at.cls sp_X11_at := by
  intro ra μ K h
  obtain ⟨this, board, x, y, rfl, h⟩ := sp_X11_at_i h
  obtain rfl := h.1
  exact ⟨[.inl y, .inl x, .inl board], 85, 11, _, _, rfl, T_85, rfl, rfl⟩
theorem cm_X11_at : Cond.code yX11_at cX11_at 4 (some .int) ∈ q_tb := by decide +kernel
def sp_X11_set : QP := fun ra μ K => match ra with
  | [.inl v, .inl y, .inl x, .inl board, .inr (.inr this)] => this = 85 ∧ (0 ≤ board ∧ board < 10 ∧ 0 ≤ x ∧ x < 12 ∧ 0 ≤ y ∧ y < 12) ∧ K none (q_up μ 96 (144 * board + 12 * y + x) v)
  | _ => False
theorem sp_X11_set_e (this board x y v : Int) (μ : QM) (K : Option QV → QM → Prop) : sp_X11_set [.inl v, .inl y, .inl x, .inl board, .inr (.inr this)] μ K = (this = 85 ∧ (0 ≤ board ∧ board < 10 ∧ 0 ≤ x ∧ x < 12 ∧ 0 ≤ y ∧ y < 12) ∧ K none (q_up μ 96 (144 * board + 12 * y + x) v)) := propext Iff.rfl
theorem sp_X11_set_i {ra : List QV} {μ : QM} {K : Option QV → QM → Prop} (h : sp_X11_set ra μ K) : ∃ this board x y v : Int, ra = [.inl v, .inl y, .inl x, .inl board, .inr (.inr this)] ∧ (this = 85 ∧ (0 ≤ board ∧ board < 10 ∧ 0 ≤ x ∧ x < 12 ∧ 0 ≤ y ∧ y < 12) ∧ K none (q_up μ 96 (144 * board + 12 * y + x) v)) := by
  unfold sp_X11_set at h
  split at h
  · exact ⟨_, _, _, _, _, rfl, h⟩
  · exact h.elim
def rm_X11_set : Room := { frames := 0, cells := 0, slots := 0, locals := 0 }
def G_X11_set : Nat → Nat × QP := fun i => match i with
  | _ => (0, fun _ _ _ => False)
set_option maxRecDepth 100000 in
set_option maxHeartbeats 4000000 in
theorem B_X11_set : q_Body cX11_set 5 u_X11_set fl_X11 ld_X11 G_X11_set q_T 4 s_X11_set sp_X11_set := by
  intro S Rt hR ra μ h
  obtain ⟨this, board, x, y, v, rfl, h⟩ := sp_X11_set_i h
  refine ⟨by simp [q_sl, q_ct], ?_⟩
  show S 0 [some (.inr (.inr this)), some (.inl board), some (.inl x), some (.inl y), some (.inl v)] [] μ
  obtain ⟨rfl, h1, h2⟩ := h
  refine hR 60 [] 0 _ _ _ rfl ?_
  simp only [v_opt_n, v_opt_s, v_nil, v_iconst, v_bipush, v_sipush, v_lconst0, v_lconst1, v_ldc, v_ldcw, v_ldc2, v_iload0, v_iload1, v_iload2, v_iload3, v_iload, v_lload0, v_lload1, v_lload2, v_lload3, v_lload, v_aload0, v_aload1, v_aload2, v_aload3, v_aload, v_istore0, v_istore1, v_istore2, v_istore3, v_istore, v_lstore0, v_lstore1, v_lstore2, v_lstore3, v_lstore, v_astore0, v_astore1, v_astore2, v_astore3, v_astore, v_iinc, v_iadd, v_isub, v_imul, v_iand, v_ior, v_ixor, v_ishl, v_ishr, v_iushr, v_ineg, v_idiv, v_irem, v_ladd, v_lsub, v_lmul, v_lcmp, v_i2l, v_l2i, v_i2c, v_dup, v_dup2, v_if_eq, v_if_ne, v_if_lt, v_if_ge, v_if_gt, v_if_le, v_ic_eq, v_ic_ne, v_ic_lt, v_ic_ge, v_ic_gt, v_ic_le, v_goto, v_tsw, v_lsw, v_ireturn, v_areturn, v_return, v_iaload, v_laload, v_baload, v_caload, v_aaload, v_iastore, v_lastore, v_bastore, v_castore, v_alen, v_invvi, v_invst, v_invsp, e_int, e_lng, e_ref, e_lg0, e_lg1, e_lg2, e_lg3, e_lg4, e_lg5, e_lg6, e_lg7, e_lg8, e_lg9, e_lg10, e_lg11, e_lg12, e_lg13, e_clrI, e_clrJ, e_clrP, e_clrN, e_s0, e_s1, e_s2, e_s3, e_s4, e_s5, e_s6, e_s7, e_s8, e_s9, e_s10, e_s11, e_s12, e_s13, e_t0, e_t1, e_t2, e_t3, e_t4, e_t5, e_t6, e_t7, e_t8, e_t9, e_t10, e_t11, e_t12, e_t13, e_fd, e_kk, e_k0, e_k1, e_k2, e_k3, e_k4, e_k5, e_k6, e_k7, e_k8, e_k9, e_sv0, e_sv1, e_sv2, e_sv3, e_svc, e_pf0, e_pf1, e_pf2, e_pf3, e_ar, e_aa, e_al, e_sw1, e_sw2, e_ct0, e_ct1, e_ct2, e_cat0, e_cat1, e_rk0, e_rk1, e_rk2, e_inv0, e_inv1, e_inv2, e_inv3, e_inv4, e_inv5, e_inv6, e_o0, e_o1, e_cl, e_cle, e_cg, e_cge, e_ce, e_cr1, e_cr2, e_r, e_R, e_up, Int.cast_ofNat_Int, u_app, false_and, and_false, e_b0, e_b1, e_bn, e_bl, e_bu, Int.reduceLE, Int.reduceLT, Int.reduceEq, Int.reduceNeg, Int.reduceAdd, Int.reduceSub, Int.reduceMul, Nat.reduceLeDiff, Nat.reduceLT, Nat.reduceAdd, Nat.reduceEqDiff, true_and, and_true, true_or, or_true, false_or, or_false, forall_const, not_true_eq_false, not_false_eq_true, true_implies, false_implies, implies_true, and_self, zero_ne_one, one_ne_zero, eq_self, reduceIte, s_X11_set_0, b_X11_set_0, g_X11_48, T_96]
  (repeat' (first | (refine And.intro ?_ ?_) | (intro _))) <;> first | omega | assumption | (exfalso; omega)
set_option maxRecDepth 100000 in
theorem C_X11_set {l : Launch} {ad : Int → Nat} {D : va_G} {cy : Nat → ClassId} {Z : State → Prop} (hZ : q_Zg ad Z) : q_Ct l q_T q_N ad D cy Z yX11_set cX11_set 5 none rm_X11_set sp_X11_set := by
  obtain ⟨hf, hg, hld⟩ := q_chkS k_X11_set
  refine q_met (rk := 4) q_wokT (by decide) rfl hf hg hld rfl (q_skS L_X11_set o_X11_set) ?_ ?_ ?_ ?_ B_X11_set
  · intro i hi; exact absurd hi List.not_mem_nil
  · intro i hi; exact absurd hi List.not_mem_nil
  · intro i hi; exact absurd hi List.not_mem_nil
  · intro i hi; exact absurd hi List.not_mem_nil
theorem rv_X11_set : q_rcv q_T yX11_set.cls sp_X11_set := by
  intro ra μ K h
  obtain ⟨this, board, x, y, v, rfl, h⟩ := sp_X11_set_i h
  obtain rfl := h.1
  exact ⟨[.inl v, .inl y, .inl x, .inl board], 85, 11, _, _, rfl, T_85, rfl, rfl⟩
theorem cm_X11_set : Cond.code yX11_set cX11_set 5 none ∈ q_tb := by decide +kernel
def sp_X11_stepX : QP := fun ra μ K => match ra with
  | [.inl d] => q_r d ∧ K (some (.inl (if d = 0 then 1 else if d = 2 then -1 else 0))) μ
  | _ => False
theorem sp_X11_stepX_e (d : Int) (μ : QM) (K : Option QV → QM → Prop) : sp_X11_stepX [.inl d] μ K = (q_r d ∧ K (some (.inl (if d = 0 then 1 else if d = 2 then -1 else 0))) μ) := propext Iff.rfl
theorem sp_X11_stepX_i {ra : List QV} {μ : QM} {K : Option QV → QM → Prop} (h : sp_X11_stepX ra μ K) : ∃ d : Int, ra = [.inl d] ∧ (q_r d ∧ K (some (.inl (if d = 0 then 1 else if d = 2 then -1 else 0))) μ) := by
  unfold sp_X11_stepX at h
  split at h
  · exact ⟨_, rfl, h⟩
  · exact h.elim
def rm_X11_stepX : Room := { frames := 0, cells := 0, slots := 0, locals := 0 }
def G_X11_stepX : Nat → Nat × QP := fun i => match i with
  | _ => (0, fun _ _ _ => False)
set_option maxRecDepth 100000 in
set_option maxHeartbeats 4000000 in
theorem B_X11_stepX : q_Body cX11_stepX 1 u_X11_stepX fl_X11 ld_X11 G_X11_stepX q_T 0 s_X11_stepX sp_X11_stepX := by
  intro S Rt hR ra μ h
  obtain ⟨d, rfl, h⟩ := sp_X11_stepX_i h
  refine ⟨by simp [q_sl, q_ct], ?_⟩
  show S 0 [some (.inl d)] [] μ
  obtain ⟨h1, h2⟩ := h
  refine hR 60 [] 0 _ _ _ rfl ?_
  simp only [v_opt_n, v_opt_s, v_nil, v_iconst, v_bipush, v_sipush, v_lconst0, v_lconst1, v_ldc, v_ldcw, v_ldc2, v_iload0, v_iload1, v_iload2, v_iload3, v_iload, v_lload0, v_lload1, v_lload2, v_lload3, v_lload, v_aload0, v_aload1, v_aload2, v_aload3, v_aload, v_istore0, v_istore1, v_istore2, v_istore3, v_istore, v_lstore0, v_lstore1, v_lstore2, v_lstore3, v_lstore, v_astore0, v_astore1, v_astore2, v_astore3, v_astore, v_iinc, v_iadd, v_isub, v_imul, v_iand, v_ior, v_ixor, v_ishl, v_ishr, v_iushr, v_ineg, v_idiv, v_irem, v_ladd, v_lsub, v_lmul, v_lcmp, v_i2l, v_l2i, v_i2c, v_dup, v_dup2, v_if_eq, v_if_ne, v_if_lt, v_if_ge, v_if_gt, v_if_le, v_ic_eq, v_ic_ne, v_ic_lt, v_ic_ge, v_ic_gt, v_ic_le, v_goto, v_tsw, v_lsw, v_ireturn, v_areturn, v_return, v_iaload, v_laload, v_baload, v_caload, v_aaload, v_iastore, v_lastore, v_bastore, v_castore, v_alen, v_invvi, v_invst, v_invsp, e_int, e_lng, e_ref, e_lg0, e_lg1, e_lg2, e_lg3, e_lg4, e_lg5, e_lg6, e_lg7, e_lg8, e_lg9, e_lg10, e_lg11, e_lg12, e_lg13, e_clrI, e_clrJ, e_clrP, e_clrN, e_s0, e_s1, e_s2, e_s3, e_s4, e_s5, e_s6, e_s7, e_s8, e_s9, e_s10, e_s11, e_s12, e_s13, e_t0, e_t1, e_t2, e_t3, e_t4, e_t5, e_t6, e_t7, e_t8, e_t9, e_t10, e_t11, e_t12, e_t13, e_fd, e_kk, e_k0, e_k1, e_k2, e_k3, e_k4, e_k5, e_k6, e_k7, e_k8, e_k9, e_sv0, e_sv1, e_sv2, e_sv3, e_svc, e_pf0, e_pf1, e_pf2, e_pf3, e_ar, e_aa, e_al, e_sw1, e_sw2, e_ct0, e_ct1, e_ct2, e_cat0, e_cat1, e_rk0, e_rk1, e_rk2, e_inv0, e_inv1, e_inv2, e_inv3, e_inv4, e_inv5, e_inv6, e_o0, e_o1, e_cl, e_cle, e_cg, e_cge, e_ce, e_cr1, e_cr2, e_r, e_R, e_up, Int.cast_ofNat_Int, u_app, false_and, and_false, e_b0, e_b1, e_bn, e_bl, e_bu, Int.reduceLE, Int.reduceLT, Int.reduceEq, Int.reduceNeg, Int.reduceAdd, Int.reduceSub, Int.reduceMul, Nat.reduceLeDiff, Nat.reduceLT, Nat.reduceAdd, Nat.reduceEqDiff, true_and, and_true, true_or, or_true, false_or, or_false, forall_const, not_true_eq_false, not_false_eq_true, true_implies, false_implies, implies_true, and_self, zero_ne_one, one_ne_zero, eq_self, reduceIte, s_X11_stepX_0, b_X11_stepX_0, s_X11_stepX_4, b_X11_stepX_4, s_X11_stepX_8, b_X11_stepX_8, s_X11_stepX_13, b_X11_stepX_13, s_X11_stepX_17, b_X11_stepX_17, s_X11_stepX_18, b_X11_stepX_18]
  (repeat' split at h2) <;> (repeat' (first | (refine And.intro ?_ ?_) | (intro _))) <;> first | omega | assumption | (exfalso; omega)
set_option maxRecDepth 100000 in
theorem C_X11_stepX {l : Launch} {ad : Int → Nat} {D : va_G} {cy : Nat → ClassId} {Z : State → Prop} (hZ : q_Zg ad Z) : q_Ct l q_T q_N ad D cy Z yX11_stepX cX11_stepX 1 (some .int) rm_X11_stepX sp_X11_stepX := by
  obtain ⟨hf, hg, hld⟩ := q_chkS k_X11_stepX
  refine q_met (rk := 0) q_wokT (by decide) rfl hf hg hld rfl (q_skS L_X11_stepX o_X11_stepX) ?_ ?_ ?_ ?_ B_X11_stepX
  · intro i hi; exact absurd hi List.not_mem_nil
  · intro i hi; exact absurd hi List.not_mem_nil
  · intro i hi; exact absurd hi List.not_mem_nil
  · intro i hi; exact absurd hi List.not_mem_nil
theorem cm_X11_stepX : Cond.code yX11_stepX cX11_stepX 1 (some .int) ∈ q_tb := by decide +kernel
def sp_X11_stepY : QP := fun ra μ K => match ra with
  | [.inl d] => q_r d ∧ K (some (.inl (if d = 1 then 1 else if d = 3 then -1 else 0))) μ
  | _ => False
theorem sp_X11_stepY_e (d : Int) (μ : QM) (K : Option QV → QM → Prop) : sp_X11_stepY [.inl d] μ K = (q_r d ∧ K (some (.inl (if d = 1 then 1 else if d = 3 then -1 else 0))) μ) := propext Iff.rfl
theorem sp_X11_stepY_i {ra : List QV} {μ : QM} {K : Option QV → QM → Prop} (h : sp_X11_stepY ra μ K) : ∃ d : Int, ra = [.inl d] ∧ (q_r d ∧ K (some (.inl (if d = 1 then 1 else if d = 3 then -1 else 0))) μ) := by
  unfold sp_X11_stepY at h
  split at h
  · exact ⟨_, rfl, h⟩
  · exact h.elim
def rm_X11_stepY : Room := { frames := 0, cells := 0, slots := 0, locals := 0 }
def G_X11_stepY : Nat → Nat × QP := fun i => match i with
  | _ => (0, fun _ _ _ => False)
set_option maxRecDepth 100000 in
set_option maxHeartbeats 4000000 in
theorem B_X11_stepY : q_Body cX11_stepY 1 u_X11_stepY fl_X11 ld_X11 G_X11_stepY q_T 0 s_X11_stepY sp_X11_stepY := by
  intro S Rt hR ra μ h
  obtain ⟨d, rfl, h⟩ := sp_X11_stepY_i h
  refine ⟨by simp [q_sl, q_ct], ?_⟩
  show S 0 [some (.inl d)] [] μ
  obtain ⟨h1, h2⟩ := h
  refine hR 60 [] 0 _ _ _ rfl ?_
  simp only [v_opt_n, v_opt_s, v_nil, v_iconst, v_bipush, v_sipush, v_lconst0, v_lconst1, v_ldc, v_ldcw, v_ldc2, v_iload0, v_iload1, v_iload2, v_iload3, v_iload, v_lload0, v_lload1, v_lload2, v_lload3, v_lload, v_aload0, v_aload1, v_aload2, v_aload3, v_aload, v_istore0, v_istore1, v_istore2, v_istore3, v_istore, v_lstore0, v_lstore1, v_lstore2, v_lstore3, v_lstore, v_astore0, v_astore1, v_astore2, v_astore3, v_astore, v_iinc, v_iadd, v_isub, v_imul, v_iand, v_ior, v_ixor, v_ishl, v_ishr, v_iushr, v_ineg, v_idiv, v_irem, v_ladd, v_lsub, v_lmul, v_lcmp, v_i2l, v_l2i, v_i2c, v_dup, v_dup2, v_if_eq, v_if_ne, v_if_lt, v_if_ge, v_if_gt, v_if_le, v_ic_eq, v_ic_ne, v_ic_lt, v_ic_ge, v_ic_gt, v_ic_le, v_goto, v_tsw, v_lsw, v_ireturn, v_areturn, v_return, v_iaload, v_laload, v_baload, v_caload, v_aaload, v_iastore, v_lastore, v_bastore, v_castore, v_alen, v_invvi, v_invst, v_invsp, e_int, e_lng, e_ref, e_lg0, e_lg1, e_lg2, e_lg3, e_lg4, e_lg5, e_lg6, e_lg7, e_lg8, e_lg9, e_lg10, e_lg11, e_lg12, e_lg13, e_clrI, e_clrJ, e_clrP, e_clrN, e_s0, e_s1, e_s2, e_s3, e_s4, e_s5, e_s6, e_s7, e_s8, e_s9, e_s10, e_s11, e_s12, e_s13, e_t0, e_t1, e_t2, e_t3, e_t4, e_t5, e_t6, e_t7, e_t8, e_t9, e_t10, e_t11, e_t12, e_t13, e_fd, e_kk, e_k0, e_k1, e_k2, e_k3, e_k4, e_k5, e_k6, e_k7, e_k8, e_k9, e_sv0, e_sv1, e_sv2, e_sv3, e_svc, e_pf0, e_pf1, e_pf2, e_pf3, e_ar, e_aa, e_al, e_sw1, e_sw2, e_ct0, e_ct1, e_ct2, e_cat0, e_cat1, e_rk0, e_rk1, e_rk2, e_inv0, e_inv1, e_inv2, e_inv3, e_inv4, e_inv5, e_inv6, e_o0, e_o1, e_cl, e_cle, e_cg, e_cge, e_ce, e_cr1, e_cr2, e_r, e_R, e_up, Int.cast_ofNat_Int, u_app, false_and, and_false, e_b0, e_b1, e_bn, e_bl, e_bu, Int.reduceLE, Int.reduceLT, Int.reduceEq, Int.reduceNeg, Int.reduceAdd, Int.reduceSub, Int.reduceMul, Nat.reduceLeDiff, Nat.reduceLT, Nat.reduceAdd, Nat.reduceEqDiff, true_and, and_true, true_or, or_true, false_or, or_false, forall_const, not_true_eq_false, not_false_eq_true, true_implies, false_implies, implies_true, and_self, zero_ne_one, one_ne_zero, eq_self, reduceIte, s_X11_stepY_0, b_X11_stepY_0, s_X11_stepY_5, b_X11_stepY_5, s_X11_stepY_9, b_X11_stepY_9, s_X11_stepY_14, b_X11_stepY_14, s_X11_stepY_18, b_X11_stepY_18, s_X11_stepY_19, b_X11_stepY_19]
  (repeat' split at h2) <;> (repeat' (first | (refine And.intro ?_ ?_) | (intro _))) <;> first | omega | assumption | (exfalso; omega)
set_option maxRecDepth 100000 in
theorem C_X11_stepY {l : Launch} {ad : Int → Nat} {D : va_G} {cy : Nat → ClassId} {Z : State → Prop} (hZ : q_Zg ad Z) : q_Ct l q_T q_N ad D cy Z yX11_stepY cX11_stepY 1 (some .int) rm_X11_stepY sp_X11_stepY := by
  obtain ⟨hf, hg, hld⟩ := q_chkS k_X11_stepY
  refine q_met (rk := 0) q_wokT (by decide) rfl hf hg hld rfl (q_skS L_X11_stepY o_X11_stepY) ?_ ?_ ?_ ?_ B_X11_stepY
  · intro i hi; exact absurd hi List.not_mem_nil
  · intro i hi; exact absurd hi List.not_mem_nil
  · intro i hi; exact absurd hi List.not_mem_nil
  · intro i hi; exact absurd hi List.not_mem_nil
theorem cm_X11_stepY : Cond.code yX11_stepY cX11_stepY 1 (some .int) ∈ q_tb := by decide +kernel
def sp_X11_isSmall : QP := fun ra μ K => match ra with
  | [.inl c] => q_r c ∧ K (some (.inl (q_b (97 ≤ c ∧ c ≤ 122)))) μ
  | _ => False
theorem sp_X11_isSmall_e (c : Int) (μ : QM) (K : Option QV → QM → Prop) : sp_X11_isSmall [.inl c] μ K = (q_r c ∧ K (some (.inl (q_b (97 ≤ c ∧ c ≤ 122)))) μ) := propext Iff.rfl
theorem sp_X11_isSmall_i {ra : List QV} {μ : QM} {K : Option QV → QM → Prop} (h : sp_X11_isSmall ra μ K) : ∃ c : Int, ra = [.inl c] ∧ (q_r c ∧ K (some (.inl (q_b (97 ≤ c ∧ c ≤ 122)))) μ) := by
  unfold sp_X11_isSmall at h
  split at h
  · exact ⟨_, rfl, h⟩
  · exact h.elim
def rm_X11_isSmall : Room := { frames := 0, cells := 0, slots := 0, locals := 0 }
def G_X11_isSmall : Nat → Nat × QP := fun i => match i with
  | _ => (0, fun _ _ _ => False)
set_option maxRecDepth 100000 in
set_option maxHeartbeats 4000000 in
theorem B_X11_isSmall : q_Body cX11_isSmall 1 u_X11_isSmall fl_X11 ld_X11 G_X11_isSmall q_T 1 s_X11_isSmall sp_X11_isSmall := by
  intro S Rt hR ra μ h
  obtain ⟨c, rfl, h⟩ := sp_X11_isSmall_i h
  refine ⟨by simp [q_sl, q_ct], ?_⟩
  show S 0 [some (.inl c)] [] μ
  obtain ⟨h1, h2⟩ := h
  refine hR 60 [] 0 _ _ _ rfl ?_
  simp only [v_opt_n, v_opt_s, v_nil, v_iconst, v_bipush, v_sipush, v_lconst0, v_lconst1, v_ldc, v_ldcw, v_ldc2, v_iload0, v_iload1, v_iload2, v_iload3, v_iload, v_lload0, v_lload1, v_lload2, v_lload3, v_lload, v_aload0, v_aload1, v_aload2, v_aload3, v_aload, v_istore0, v_istore1, v_istore2, v_istore3, v_istore, v_lstore0, v_lstore1, v_lstore2, v_lstore3, v_lstore, v_astore0, v_astore1, v_astore2, v_astore3, v_astore, v_iinc, v_iadd, v_isub, v_imul, v_iand, v_ior, v_ixor, v_ishl, v_ishr, v_iushr, v_ineg, v_idiv, v_irem, v_ladd, v_lsub, v_lmul, v_lcmp, v_i2l, v_l2i, v_i2c, v_dup, v_dup2, v_if_eq, v_if_ne, v_if_lt, v_if_ge, v_if_gt, v_if_le, v_ic_eq, v_ic_ne, v_ic_lt, v_ic_ge, v_ic_gt, v_ic_le, v_goto, v_tsw, v_lsw, v_ireturn, v_areturn, v_return, v_iaload, v_laload, v_baload, v_caload, v_aaload, v_iastore, v_lastore, v_bastore, v_castore, v_alen, v_invvi, v_invst, v_invsp, e_int, e_lng, e_ref, e_lg0, e_lg1, e_lg2, e_lg3, e_lg4, e_lg5, e_lg6, e_lg7, e_lg8, e_lg9, e_lg10, e_lg11, e_lg12, e_lg13, e_clrI, e_clrJ, e_clrP, e_clrN, e_s0, e_s1, e_s2, e_s3, e_s4, e_s5, e_s6, e_s7, e_s8, e_s9, e_s10, e_s11, e_s12, e_s13, e_t0, e_t1, e_t2, e_t3, e_t4, e_t5, e_t6, e_t7, e_t8, e_t9, e_t10, e_t11, e_t12, e_t13, e_fd, e_kk, e_k0, e_k1, e_k2, e_k3, e_k4, e_k5, e_k6, e_k7, e_k8, e_k9, e_sv0, e_sv1, e_sv2, e_sv3, e_svc, e_pf0, e_pf1, e_pf2, e_pf3, e_ar, e_aa, e_al, e_sw1, e_sw2, e_ct0, e_ct1, e_ct2, e_cat0, e_cat1, e_rk0, e_rk1, e_rk2, e_inv0, e_inv1, e_inv2, e_inv3, e_inv4, e_inv5, e_inv6, e_o0, e_o1, e_cl, e_cle, e_cg, e_cge, e_ce, e_cr1, e_cr2, e_r, e_R, e_up, Int.cast_ofNat_Int, u_app, false_and, and_false, e_b0, e_b1, e_bn, e_bl, e_bu, Int.reduceLE, Int.reduceLT, Int.reduceEq, Int.reduceNeg, Int.reduceAdd, Int.reduceSub, Int.reduceMul, Nat.reduceLeDiff, Nat.reduceLT, Nat.reduceAdd, Nat.reduceEqDiff, true_and, and_true, true_or, or_true, false_or, or_false, forall_const, not_true_eq_false, not_false_eq_true, true_implies, false_implies, implies_true, and_self, zero_ne_one, one_ne_zero, eq_self, reduceIte, s_X11_isSmall_0, b_X11_isSmall_0, s_X11_isSmall_6, b_X11_isSmall_6, s_X11_isSmall_12, b_X11_isSmall_12, s_X11_isSmall_16, b_X11_isSmall_16, s_X11_isSmall_17, b_X11_isSmall_17]
  unfold q_b at h2
  split at h2 <;> (repeat' (first | (refine And.intro ?_ ?_) | (intro _))) <;> first | omega | assumption | (exfalso; omega)
set_option maxRecDepth 100000 in
theorem C_X11_isSmall {l : Launch} {ad : Int → Nat} {D : va_G} {cy : Nat → ClassId} {Z : State → Prop} (hZ : q_Zg ad Z) : q_Ct l q_T q_N ad D cy Z yX11_isSmall cX11_isSmall 1 (some .boolean) rm_X11_isSmall sp_X11_isSmall := by
  obtain ⟨hf, hg, hld⟩ := q_chkS k_X11_isSmall
  refine q_met (rk := 1) q_wokT (by decide) rfl hf hg hld rfl (q_skS L_X11_isSmall o_X11_isSmall) ?_ ?_ ?_ ?_ B_X11_isSmall
  · intro i hi; exact absurd hi List.not_mem_nil
  · intro i hi; exact absurd hi List.not_mem_nil
  · intro i hi; exact absurd hi List.not_mem_nil
  · intro i hi; exact absurd hi List.not_mem_nil
theorem cm_X11_isSmall : Cond.code yX11_isSmall cX11_isSmall 1 (some .boolean) ∈ q_tb := by decide +kernel
def sp_X11_isDigit : QP := fun ra μ K => match ra with
  | [.inl c] => q_r c ∧ K (some (.inl (q_b (48 ≤ c ∧ c ≤ 57)))) μ
  | _ => False
theorem sp_X11_isDigit_e (c : Int) (μ : QM) (K : Option QV → QM → Prop) : sp_X11_isDigit [.inl c] μ K = (q_r c ∧ K (some (.inl (q_b (48 ≤ c ∧ c ≤ 57)))) μ) := propext Iff.rfl
theorem sp_X11_isDigit_i {ra : List QV} {μ : QM} {K : Option QV → QM → Prop} (h : sp_X11_isDigit ra μ K) : ∃ c : Int, ra = [.inl c] ∧ (q_r c ∧ K (some (.inl (q_b (48 ≤ c ∧ c ≤ 57)))) μ) := by
  unfold sp_X11_isDigit at h
  split at h
  · exact ⟨_, rfl, h⟩
  · exact h.elim
def rm_X11_isDigit : Room := { frames := 0, cells := 0, slots := 0, locals := 0 }
def G_X11_isDigit : Nat → Nat × QP := fun i => match i with
  | _ => (0, fun _ _ _ => False)
set_option maxRecDepth 100000 in
set_option maxHeartbeats 4000000 in
theorem B_X11_isDigit : q_Body cX11_isDigit 1 u_X11_isDigit fl_X11 ld_X11 G_X11_isDigit q_T 1 s_X11_isDigit sp_X11_isDigit := by
  intro S Rt hR ra μ h
  obtain ⟨c, rfl, h⟩ := sp_X11_isDigit_i h
  refine ⟨by simp [q_sl, q_ct], ?_⟩
  show S 0 [some (.inl c)] [] μ
  obtain ⟨h1, h2⟩ := h
  refine hR 60 [] 0 _ _ _ rfl ?_
  simp only [v_opt_n, v_opt_s, v_nil, v_iconst, v_bipush, v_sipush, v_lconst0, v_lconst1, v_ldc, v_ldcw, v_ldc2, v_iload0, v_iload1, v_iload2, v_iload3, v_iload, v_lload0, v_lload1, v_lload2, v_lload3, v_lload, v_aload0, v_aload1, v_aload2, v_aload3, v_aload, v_istore0, v_istore1, v_istore2, v_istore3, v_istore, v_lstore0, v_lstore1, v_lstore2, v_lstore3, v_lstore, v_astore0, v_astore1, v_astore2, v_astore3, v_astore, v_iinc, v_iadd, v_isub, v_imul, v_iand, v_ior, v_ixor, v_ishl, v_ishr, v_iushr, v_ineg, v_idiv, v_irem, v_ladd, v_lsub, v_lmul, v_lcmp, v_i2l, v_l2i, v_i2c, v_dup, v_dup2, v_if_eq, v_if_ne, v_if_lt, v_if_ge, v_if_gt, v_if_le, v_ic_eq, v_ic_ne, v_ic_lt, v_ic_ge, v_ic_gt, v_ic_le, v_goto, v_tsw, v_lsw, v_ireturn, v_areturn, v_return, v_iaload, v_laload, v_baload, v_caload, v_aaload, v_iastore, v_lastore, v_bastore, v_castore, v_alen, v_invvi, v_invst, v_invsp, e_int, e_lng, e_ref, e_lg0, e_lg1, e_lg2, e_lg3, e_lg4, e_lg5, e_lg6, e_lg7, e_lg8, e_lg9, e_lg10, e_lg11, e_lg12, e_lg13, e_clrI, e_clrJ, e_clrP, e_clrN, e_s0, e_s1, e_s2, e_s3, e_s4, e_s5, e_s6, e_s7, e_s8, e_s9, e_s10, e_s11, e_s12, e_s13, e_t0, e_t1, e_t2, e_t3, e_t4, e_t5, e_t6, e_t7, e_t8, e_t9, e_t10, e_t11, e_t12, e_t13, e_fd, e_kk, e_k0, e_k1, e_k2, e_k3, e_k4, e_k5, e_k6, e_k7, e_k8, e_k9, e_sv0, e_sv1, e_sv2, e_sv3, e_svc, e_pf0, e_pf1, e_pf2, e_pf3, e_ar, e_aa, e_al, e_sw1, e_sw2, e_ct0, e_ct1, e_ct2, e_cat0, e_cat1, e_rk0, e_rk1, e_rk2, e_inv0, e_inv1, e_inv2, e_inv3, e_inv4, e_inv5, e_inv6, e_o0, e_o1, e_cl, e_cle, e_cg, e_cge, e_ce, e_cr1, e_cr2, e_r, e_R, e_up, Int.cast_ofNat_Int, u_app, false_and, and_false, e_b0, e_b1, e_bn, e_bl, e_bu, Int.reduceLE, Int.reduceLT, Int.reduceEq, Int.reduceNeg, Int.reduceAdd, Int.reduceSub, Int.reduceMul, Nat.reduceLeDiff, Nat.reduceLT, Nat.reduceAdd, Nat.reduceEqDiff, true_and, and_true, true_or, or_true, false_or, or_false, forall_const, not_true_eq_false, not_false_eq_true, true_implies, false_implies, implies_true, and_self, zero_ne_one, one_ne_zero, eq_self, reduceIte, s_X11_isDigit_0, b_X11_isDigit_0, s_X11_isDigit_6, b_X11_isDigit_6, s_X11_isDigit_12, b_X11_isDigit_12, s_X11_isDigit_16, b_X11_isDigit_16, s_X11_isDigit_17, b_X11_isDigit_17]
  unfold q_b at h2
  split at h2 <;> (repeat' (first | (refine And.intro ?_ ?_) | (intro _))) <;> first | omega | assumption | (exfalso; omega)
set_option maxRecDepth 100000 in
theorem C_X11_isDigit {l : Launch} {ad : Int → Nat} {D : va_G} {cy : Nat → ClassId} {Z : State → Prop} (hZ : q_Zg ad Z) : q_Ct l q_T q_N ad D cy Z yX11_isDigit cX11_isDigit 1 (some .boolean) rm_X11_isDigit sp_X11_isDigit := by
  obtain ⟨hf, hg, hld⟩ := q_chkS k_X11_isDigit
  refine q_met (rk := 1) q_wokT (by decide) rfl hf hg hld rfl (q_skS L_X11_isDigit o_X11_isDigit) ?_ ?_ ?_ ?_ B_X11_isDigit
  · intro i hi; exact absurd hi List.not_mem_nil
  · intro i hi; exact absurd hi List.not_mem_nil
  · intro i hi; exact absurd hi List.not_mem_nil
  · intro i hi; exact absurd hi List.not_mem_nil
theorem cm_X11_isDigit : Cond.code yX11_isDigit cX11_isDigit 1 (some .boolean) ∈ q_tb := by decide +kernel
def sp_X11_isSign : QP := fun ra μ K => match ra with
  | [.inl c, .inr (.inr this)] => this = 85 ∧ (q_r c ∧ q_r (μ 85 34) ∧ q_R (μ 85 35)) ∧ K (some (.inl (q_b (μ 85 34 = 3 ∧ μ 85 35 = c)))) μ
  | _ => False
theorem sp_X11_isSign_e (this c : Int) (μ : QM) (K : Option QV → QM → Prop) : sp_X11_isSign [.inl c, .inr (.inr this)] μ K = (this = 85 ∧ (q_r c ∧ q_r (μ 85 34) ∧ q_R (μ 85 35)) ∧ K (some (.inl (q_b (μ 85 34 = 3 ∧ μ 85 35 = c)))) μ) := propext Iff.rfl
theorem sp_X11_isSign_i {ra : List QV} {μ : QM} {K : Option QV → QM → Prop} (h : sp_X11_isSign ra μ K) : ∃ this c : Int, ra = [.inl c, .inr (.inr this)] ∧ (this = 85 ∧ (q_r c ∧ q_r (μ 85 34) ∧ q_R (μ 85 35)) ∧ K (some (.inl (q_b (μ 85 34 = 3 ∧ μ 85 35 = c)))) μ) := by
  unfold sp_X11_isSign at h
  split at h
  · exact ⟨_, _, rfl, h⟩
  · exact h.elim
def rm_X11_isSign : Room := { frames := 0, cells := 0, slots := 0, locals := 0 }
def G_X11_isSign : Nat → Nat × QP := fun i => match i with
  | _ => (0, fun _ _ _ => False)
set_option maxRecDepth 100000 in
set_option maxHeartbeats 4000000 in
theorem B_X11_isSign : q_Body cX11_isSign 2 u_X11_isSign fl_X11 ld_X11 G_X11_isSign q_T 1 s_X11_isSign sp_X11_isSign := by
  intro S Rt hR ra μ h
  obtain ⟨this, c, rfl, h⟩ := sp_X11_isSign_i h
  refine ⟨by simp [q_sl, q_ct], ?_⟩
  show S 0 [some (.inr (.inr this)), some (.inl c)] [] μ
  obtain ⟨rfl, h1, h2⟩ := h
  refine hR 60 [] 0 _ _ _ rfl ?_
  simp only [v_opt_n, v_opt_s, v_nil, v_iconst, v_bipush, v_sipush, v_lconst0, v_lconst1, v_ldc, v_ldcw, v_ldc2, v_iload0, v_iload1, v_iload2, v_iload3, v_iload, v_lload0, v_lload1, v_lload2, v_lload3, v_lload, v_aload0, v_aload1, v_aload2, v_aload3, v_aload, v_istore0, v_istore1, v_istore2, v_istore3, v_istore, v_lstore0, v_lstore1, v_lstore2, v_lstore3, v_lstore, v_astore0, v_astore1, v_astore2, v_astore3, v_astore, v_iinc, v_iadd, v_isub, v_imul, v_iand, v_ior, v_ixor, v_ishl, v_ishr, v_iushr, v_ineg, v_idiv, v_irem, v_ladd, v_lsub, v_lmul, v_lcmp, v_i2l, v_l2i, v_i2c, v_dup, v_dup2, v_if_eq, v_if_ne, v_if_lt, v_if_ge, v_if_gt, v_if_le, v_ic_eq, v_ic_ne, v_ic_lt, v_ic_ge, v_ic_gt, v_ic_le, v_goto, v_tsw, v_lsw, v_ireturn, v_areturn, v_return, v_iaload, v_laload, v_baload, v_caload, v_aaload, v_iastore, v_lastore, v_bastore, v_castore, v_alen, v_invvi, v_invst, v_invsp, e_int, e_lng, e_ref, e_lg0, e_lg1, e_lg2, e_lg3, e_lg4, e_lg5, e_lg6, e_lg7, e_lg8, e_lg9, e_lg10, e_lg11, e_lg12, e_lg13, e_clrI, e_clrJ, e_clrP, e_clrN, e_s0, e_s1, e_s2, e_s3, e_s4, e_s5, e_s6, e_s7, e_s8, e_s9, e_s10, e_s11, e_s12, e_s13, e_t0, e_t1, e_t2, e_t3, e_t4, e_t5, e_t6, e_t7, e_t8, e_t9, e_t10, e_t11, e_t12, e_t13, e_fd, e_kk, e_k0, e_k1, e_k2, e_k3, e_k4, e_k5, e_k6, e_k7, e_k8, e_k9, e_sv0, e_sv1, e_sv2, e_sv3, e_svc, e_pf0, e_pf1, e_pf2, e_pf3, e_ar, e_aa, e_al, e_sw1, e_sw2, e_ct0, e_ct1, e_ct2, e_cat0, e_cat1, e_rk0, e_rk1, e_rk2, e_inv0, e_inv1, e_inv2, e_inv3, e_inv4, e_inv5, e_inv6, e_o0, e_o1, e_cl, e_cle, e_cg, e_cge, e_ce, e_cr1, e_cr2, e_r, e_R, e_up, Int.cast_ofNat_Int, u_app, false_and, and_false, e_b0, e_b1, e_bn, e_bl, e_bu, Int.reduceLE, Int.reduceLT, Int.reduceEq, Int.reduceNeg, Int.reduceAdd, Int.reduceSub, Int.reduceMul, Nat.reduceLeDiff, Nat.reduceLT, Nat.reduceAdd, Nat.reduceEqDiff, true_and, and_true, true_or, or_true, false_or, or_false, forall_const, not_true_eq_false, not_false_eq_true, true_implies, false_implies, implies_true, and_self, zero_ne_one, one_ne_zero, eq_self, reduceIte, s_X11_isSign_0, b_X11_isSign_0, s_X11_isSign_8, b_X11_isSign_8, s_X11_isSign_18, b_X11_isSign_18, s_X11_isSign_22, b_X11_isSign_22, s_X11_isSign_23, b_X11_isSign_23, g_X11_239, g_X11_230]
  unfold q_b at h2
  split at h2 <;> (repeat' (first | (refine And.intro ?_ ?_) | (intro _))) <;> first | omega | assumption | (exfalso; omega)
set_option maxRecDepth 100000 in
theorem C_X11_isSign {l : Launch} {ad : Int → Nat} {D : va_G} {cy : Nat → ClassId} {Z : State → Prop} (hZ : q_Zg ad Z) : q_Ct l q_T q_N ad D cy Z yX11_isSign cX11_isSign 2 (some .boolean) rm_X11_isSign sp_X11_isSign := by
  obtain ⟨hf, hg, hld⟩ := q_chkS k_X11_isSign
  refine q_met (rk := 1) q_wokT (by decide) rfl hf hg hld rfl (q_skS L_X11_isSign o_X11_isSign) ?_ ?_ ?_ ?_ B_X11_isSign
  · intro i hi; exact absurd hi List.not_mem_nil
  · intro i hi; exact absurd hi List.not_mem_nil
  · intro i hi; exact absurd hi List.not_mem_nil
  · intro i hi; exact absurd hi List.not_mem_nil
theorem rv_X11_isSign : q_rcv q_T yX11_isSign.cls sp_X11_isSign := by
  intro ra μ K h
  obtain ⟨this, c, rfl, h⟩ := sp_X11_isSign_i h
  obtain rfl := h.1
  exact ⟨[.inl c], 85, 11, _, _, rfl, T_85, rfl, rfl⟩
theorem cm_X11_isSign : Cond.code yX11_isSign cX11_isSign 2 (some .boolean) ∈ q_tb := by decide +kernel
def sp_X11_isName : QP := fun ra μ K => match ra with
  | [.inr (.inr this)] => this = 85 ∧ (q_r (μ 85 32) ∧ q_r (μ 85 33) ∧ q_r (μ 85 34) ∧ q_r (μ 85 33 - μ 85 32)) ∧ K (some (.inl (q_b (μ 85 34 = 1 ∧ μ 85 33 - μ 85 32 = 1)))) μ
  | _ => False
theorem sp_X11_isName_e (this : Int) (μ : QM) (K : Option QV → QM → Prop) : sp_X11_isName [.inr (.inr this)] μ K = (this = 85 ∧ (q_r (μ 85 32) ∧ q_r (μ 85 33) ∧ q_r (μ 85 34) ∧ q_r (μ 85 33 - μ 85 32)) ∧ K (some (.inl (q_b (μ 85 34 = 1 ∧ μ 85 33 - μ 85 32 = 1)))) μ) := propext Iff.rfl
theorem sp_X11_isName_i {ra : List QV} {μ : QM} {K : Option QV → QM → Prop} (h : sp_X11_isName ra μ K) : ∃ this : Int, ra = [.inr (.inr this)] ∧ (this = 85 ∧ (q_r (μ 85 32) ∧ q_r (μ 85 33) ∧ q_r (μ 85 34) ∧ q_r (μ 85 33 - μ 85 32)) ∧ K (some (.inl (q_b (μ 85 34 = 1 ∧ μ 85 33 - μ 85 32 = 1)))) μ) := by
  unfold sp_X11_isName at h
  split at h
  · exact ⟨_, rfl, h⟩
  · exact h.elim
def rm_X11_isName : Room := { frames := 0, cells := 0, slots := 0, locals := 0 }
def G_X11_isName : Nat → Nat × QP := fun i => match i with
  | _ => (0, fun _ _ _ => False)
set_option maxRecDepth 100000 in
set_option maxHeartbeats 4000000 in
theorem B_X11_isName : q_Body cX11_isName 1 u_X11_isName fl_X11 ld_X11 G_X11_isName q_T 1 s_X11_isName sp_X11_isName := by
  intro S Rt hR ra μ h
  obtain ⟨this, rfl, h⟩ := sp_X11_isName_i h
  refine ⟨by simp [q_sl, q_ct], ?_⟩
  show S 0 [some (.inr (.inr this))] [] μ
  obtain ⟨rfl, h1, h2⟩ := h
  refine hR 60 [] 0 _ _ _ rfl ?_
  simp only [v_opt_n, v_opt_s, v_nil, v_iconst, v_bipush, v_sipush, v_lconst0, v_lconst1, v_ldc, v_ldcw, v_ldc2, v_iload0, v_iload1, v_iload2, v_iload3, v_iload, v_lload0, v_lload1, v_lload2, v_lload3, v_lload, v_aload0, v_aload1, v_aload2, v_aload3, v_aload, v_istore0, v_istore1, v_istore2, v_istore3, v_istore, v_lstore0, v_lstore1, v_lstore2, v_lstore3, v_lstore, v_astore0, v_astore1, v_astore2, v_astore3, v_astore, v_iinc, v_iadd, v_isub, v_imul, v_iand, v_ior, v_ixor, v_ishl, v_ishr, v_iushr, v_ineg, v_idiv, v_irem, v_ladd, v_lsub, v_lmul, v_lcmp, v_i2l, v_l2i, v_i2c, v_dup, v_dup2, v_if_eq, v_if_ne, v_if_lt, v_if_ge, v_if_gt, v_if_le, v_ic_eq, v_ic_ne, v_ic_lt, v_ic_ge, v_ic_gt, v_ic_le, v_goto, v_tsw, v_lsw, v_ireturn, v_areturn, v_return, v_iaload, v_laload, v_baload, v_caload, v_aaload, v_iastore, v_lastore, v_bastore, v_castore, v_alen, v_invvi, v_invst, v_invsp, e_int, e_lng, e_ref, e_lg0, e_lg1, e_lg2, e_lg3, e_lg4, e_lg5, e_lg6, e_lg7, e_lg8, e_lg9, e_lg10, e_lg11, e_lg12, e_lg13, e_clrI, e_clrJ, e_clrP, e_clrN, e_s0, e_s1, e_s2, e_s3, e_s4, e_s5, e_s6, e_s7, e_s8, e_s9, e_s10, e_s11, e_s12, e_s13, e_t0, e_t1, e_t2, e_t3, e_t4, e_t5, e_t6, e_t7, e_t8, e_t9, e_t10, e_t11, e_t12, e_t13, e_fd, e_kk, e_k0, e_k1, e_k2, e_k3, e_k4, e_k5, e_k6, e_k7, e_k8, e_k9, e_sv0, e_sv1, e_sv2, e_sv3, e_svc, e_pf0, e_pf1, e_pf2, e_pf3, e_ar, e_aa, e_al, e_sw1, e_sw2, e_ct0, e_ct1, e_ct2, e_cat0, e_cat1, e_rk0, e_rk1, e_rk2, e_inv0, e_inv1, e_inv2, e_inv3, e_inv4, e_inv5, e_inv6, e_o0, e_o1, e_cl, e_cle, e_cg, e_cge, e_ce, e_cr1, e_cr2, e_r, e_R, e_up, Int.cast_ofNat_Int, u_app, false_and, and_false, e_b0, e_b1, e_bn, e_bl, e_bu, Int.reduceLE, Int.reduceLT, Int.reduceEq, Int.reduceNeg, Int.reduceAdd, Int.reduceSub, Int.reduceMul, Nat.reduceLeDiff, Nat.reduceLT, Nat.reduceAdd, Nat.reduceEqDiff, true_and, and_true, true_or, or_true, false_or, or_false, forall_const, not_true_eq_false, not_false_eq_true, true_implies, false_implies, implies_true, and_self, zero_ne_one, one_ne_zero, eq_self, reduceIte, s_X11_isName_0, b_X11_isName_0, s_X11_isName_8, b_X11_isName_8, s_X11_isName_21, b_X11_isName_21, s_X11_isName_25, b_X11_isName_25, s_X11_isName_26, b_X11_isName_26, g_X11_239, g_X11_224, g_X11_227]
  unfold q_b at h2
  split at h2 <;> (repeat' (first | (refine And.intro ?_ ?_) | (intro _))) <;> first | omega | assumption | (exfalso; omega)
set_option maxRecDepth 100000 in
theorem C_X11_isName {l : Launch} {ad : Int → Nat} {D : va_G} {cy : Nat → ClassId} {Z : State → Prop} (hZ : q_Zg ad Z) : q_Ct l q_T q_N ad D cy Z yX11_isName cX11_isName 1 (some .boolean) rm_X11_isName sp_X11_isName := by
  obtain ⟨hf, hg, hld⟩ := q_chkS k_X11_isName
  refine q_met (rk := 1) q_wokT (by decide) rfl hf hg hld rfl (q_skS L_X11_isName o_X11_isName) ?_ ?_ ?_ ?_ B_X11_isName
  · intro i hi; exact absurd hi List.not_mem_nil
  · intro i hi; exact absurd hi List.not_mem_nil
  · intro i hi; exact absurd hi List.not_mem_nil
  · intro i hi; exact absurd hi List.not_mem_nil
theorem rv_X11_isName : q_rcv q_T yX11_isName.cls sp_X11_isName := by
  intro ra μ K h
  obtain ⟨this, rfl, h⟩ := sp_X11_isName_i h
  obtain rfl := h.1
  exact ⟨[], 85, 11, _, _, rfl, T_85, rfl, rfl⟩
theorem cm_X11_isName : Cond.code yX11_isName cX11_isName 1 (some .boolean) ∈ q_tb := by decide +kernel
def sp_X11_made : QP := fun ra μ K => match ra with
  | [.inr (.inr this)] => this = 85 ∧ K (some (.inl (μ 85 14))) (q_up μ 85 0 0)
  | _ => False
theorem sp_X11_made_e (this : Int) (μ : QM) (K : Option QV → QM → Prop) : sp_X11_made [.inr (.inr this)] μ K = (this = 85 ∧ K (some (.inl (μ 85 14))) (q_up μ 85 0 0)) := propext Iff.rfl
theorem sp_X11_made_i {ra : List QV} {μ : QM} {K : Option QV → QM → Prop} (h : sp_X11_made ra μ K) : ∃ this : Int, ra = [.inr (.inr this)] ∧ (this = 85 ∧ K (some (.inl (μ 85 14))) (q_up μ 85 0 0)) := by
  unfold sp_X11_made at h
  split at h
  · exact ⟨_, rfl, h⟩
  · exact h.elim
def rm_X11_made : Room := { frames := 0, cells := 0, slots := 0, locals := 0 }
def G_X11_made : Nat → Nat × QP := fun i => match i with
  | _ => (0, fun _ _ _ => False)
set_option maxRecDepth 100000 in
set_option maxHeartbeats 4000000 in
theorem B_X11_made : q_Body cX11_made 1 u_X11_made fl_X11 ld_X11 G_X11_made q_T 0 s_X11_made sp_X11_made := by
  intro S Rt hR ra μ h
  obtain ⟨this, rfl, h⟩ := sp_X11_made_i h
  refine ⟨by simp [q_sl, q_ct], ?_⟩
  show S 0 [some (.inr (.inr this))] [] μ
  obtain ⟨rfl, h2⟩ := h
  refine hR 60 [] 0 _ _ _ rfl ?_
  simp only [v_opt_n, v_opt_s, v_nil, v_iconst, v_bipush, v_sipush, v_lconst0, v_lconst1, v_ldc, v_ldcw, v_ldc2, v_iload0, v_iload1, v_iload2, v_iload3, v_iload, v_lload0, v_lload1, v_lload2, v_lload3, v_lload, v_aload0, v_aload1, v_aload2, v_aload3, v_aload, v_istore0, v_istore1, v_istore2, v_istore3, v_istore, v_lstore0, v_lstore1, v_lstore2, v_lstore3, v_lstore, v_astore0, v_astore1, v_astore2, v_astore3, v_astore, v_iinc, v_iadd, v_isub, v_imul, v_iand, v_ior, v_ixor, v_ishl, v_ishr, v_iushr, v_ineg, v_idiv, v_irem, v_ladd, v_lsub, v_lmul, v_lcmp, v_i2l, v_l2i, v_i2c, v_dup, v_dup2, v_if_eq, v_if_ne, v_if_lt, v_if_ge, v_if_gt, v_if_le, v_ic_eq, v_ic_ne, v_ic_lt, v_ic_ge, v_ic_gt, v_ic_le, v_goto, v_tsw, v_lsw, v_ireturn, v_areturn, v_return, v_iaload, v_laload, v_baload, v_caload, v_aaload, v_iastore, v_lastore, v_bastore, v_castore, v_alen, v_invvi, v_invst, v_invsp, e_int, e_lng, e_ref, e_lg0, e_lg1, e_lg2, e_lg3, e_lg4, e_lg5, e_lg6, e_lg7, e_lg8, e_lg9, e_lg10, e_lg11, e_lg12, e_lg13, e_clrI, e_clrJ, e_clrP, e_clrN, e_s0, e_s1, e_s2, e_s3, e_s4, e_s5, e_s6, e_s7, e_s8, e_s9, e_s10, e_s11, e_s12, e_s13, e_t0, e_t1, e_t2, e_t3, e_t4, e_t5, e_t6, e_t7, e_t8, e_t9, e_t10, e_t11, e_t12, e_t13, e_fd, e_kk, e_k0, e_k1, e_k2, e_k3, e_k4, e_k5, e_k6, e_k7, e_k8, e_k9, e_sv0, e_sv1, e_sv2, e_sv3, e_svc, e_pf0, e_pf1, e_pf2, e_pf3, e_ar, e_aa, e_al, e_sw1, e_sw2, e_ct0, e_ct1, e_ct2, e_cat0, e_cat1, e_rk0, e_rk1, e_rk2, e_inv0, e_inv1, e_inv2, e_inv3, e_inv4, e_inv5, e_inv6, e_o0, e_o1, e_cl, e_cle, e_cg, e_cge, e_ce, e_cr1, e_cr2, e_r, e_R, e_up, Int.cast_ofNat_Int, u_app, false_and, and_false, e_b0, e_b1, e_bn, e_bl, e_bu, Int.reduceLE, Int.reduceLT, Int.reduceEq, Int.reduceNeg, Int.reduceAdd, Int.reduceSub, Int.reduceMul, Nat.reduceLeDiff, Nat.reduceLT, Nat.reduceAdd, Nat.reduceEqDiff, true_and, and_true, true_or, or_true, false_or, or_false, forall_const, not_true_eq_false, not_false_eq_true, true_implies, false_implies, implies_true, and_self, zero_ne_one, one_ne_zero, eq_self, reduceIte, s_X11_made_0, b_X11_made_0, g_X11_85, p_X11_85, g_X11_152]
  (repeat' (first | (refine And.intro ?_ ?_) | (intro _))) <;> first | omega | assumption | (exfalso; omega)
set_option maxRecDepth 100000 in
theorem C_X11_made {l : Launch} {ad : Int → Nat} {D : va_G} {cy : Nat → ClassId} {Z : State → Prop} (hZ : q_Zg ad Z) : q_Ct l q_T q_N ad D cy Z yX11_made cX11_made 1 (some .int) rm_X11_made sp_X11_made := by
  obtain ⟨hf, hg, hld⟩ := q_chkS k_X11_made
  refine q_met (rk := 0) q_wokT (by decide) rfl hf hg hld rfl (q_skS L_X11_made o_X11_made) ?_ ?_ ?_ ?_ B_X11_made
  · intro i hi; exact absurd hi List.not_mem_nil
  · intro i hi; exact absurd hi List.not_mem_nil
  · intro i hi; exact absurd hi List.not_mem_nil
  · intro i hi; exact absurd hi List.not_mem_nil
theorem rv_X11_made : q_rcv q_T yX11_made.cls sp_X11_made := by
  intro ra μ K h
  obtain ⟨this, rfl, h⟩ := sp_X11_made_i h
  obtain rfl := h.1
  exact ⟨[], 85, 11, _, _, rfl, T_85, rfl, rfl⟩
theorem cm_X11_made : Cond.code yX11_made cX11_made 1 (some .int) ∈ q_tb := by decide +kernel
def sp_X11_fault : QP := fun ra μ K => match ra with
  | [.inr (.inr this)] => this = 85 ∧ K (some (.inl (μ 85 36))) (q_up μ 85 0 0)
  | _ => False
theorem sp_X11_fault_e (this : Int) (μ : QM) (K : Option QV → QM → Prop) : sp_X11_fault [.inr (.inr this)] μ K = (this = 85 ∧ K (some (.inl (μ 85 36))) (q_up μ 85 0 0)) := propext Iff.rfl
theorem sp_X11_fault_i {ra : List QV} {μ : QM} {K : Option QV → QM → Prop} (h : sp_X11_fault ra μ K) : ∃ this : Int, ra = [.inr (.inr this)] ∧ (this = 85 ∧ K (some (.inl (μ 85 36))) (q_up μ 85 0 0)) := by
  unfold sp_X11_fault at h
  split at h
  · exact ⟨_, rfl, h⟩
  · exact h.elim
def rm_X11_fault : Room := { frames := 0, cells := 0, slots := 0, locals := 0 }
def G_X11_fault : Nat → Nat × QP := fun i => match i with
  | _ => (0, fun _ _ _ => False)
set_option maxRecDepth 100000 in
set_option maxHeartbeats 4000000 in
theorem B_X11_fault : q_Body cX11_fault 1 u_X11_fault fl_X11 ld_X11 G_X11_fault q_T 0 s_X11_fault sp_X11_fault := by
  intro S Rt hR ra μ h
  obtain ⟨this, rfl, h⟩ := sp_X11_fault_i h
  refine ⟨by simp [q_sl, q_ct], ?_⟩
  show S 0 [some (.inr (.inr this))] [] μ
  obtain ⟨rfl, h2⟩ := h
  refine hR 60 [] 0 _ _ _ rfl ?_
  simp only [v_opt_n, v_opt_s, v_nil, v_iconst, v_bipush, v_sipush, v_lconst0, v_lconst1, v_ldc, v_ldcw, v_ldc2, v_iload0, v_iload1, v_iload2, v_iload3, v_iload, v_lload0, v_lload1, v_lload2, v_lload3, v_lload, v_aload0, v_aload1, v_aload2, v_aload3, v_aload, v_istore0, v_istore1, v_istore2, v_istore3, v_istore, v_lstore0, v_lstore1, v_lstore2, v_lstore3, v_lstore, v_astore0, v_astore1, v_astore2, v_astore3, v_astore, v_iinc, v_iadd, v_isub, v_imul, v_iand, v_ior, v_ixor, v_ishl, v_ishr, v_iushr, v_ineg, v_idiv, v_irem, v_ladd, v_lsub, v_lmul, v_lcmp, v_i2l, v_l2i, v_i2c, v_dup, v_dup2, v_if_eq, v_if_ne, v_if_lt, v_if_ge, v_if_gt, v_if_le, v_ic_eq, v_ic_ne, v_ic_lt, v_ic_ge, v_ic_gt, v_ic_le, v_goto, v_tsw, v_lsw, v_ireturn, v_areturn, v_return, v_iaload, v_laload, v_baload, v_caload, v_aaload, v_iastore, v_lastore, v_bastore, v_castore, v_alen, v_invvi, v_invst, v_invsp, e_int, e_lng, e_ref, e_lg0, e_lg1, e_lg2, e_lg3, e_lg4, e_lg5, e_lg6, e_lg7, e_lg8, e_lg9, e_lg10, e_lg11, e_lg12, e_lg13, e_clrI, e_clrJ, e_clrP, e_clrN, e_s0, e_s1, e_s2, e_s3, e_s4, e_s5, e_s6, e_s7, e_s8, e_s9, e_s10, e_s11, e_s12, e_s13, e_t0, e_t1, e_t2, e_t3, e_t4, e_t5, e_t6, e_t7, e_t8, e_t9, e_t10, e_t11, e_t12, e_t13, e_fd, e_kk, e_k0, e_k1, e_k2, e_k3, e_k4, e_k5, e_k6, e_k7, e_k8, e_k9, e_sv0, e_sv1, e_sv2, e_sv3, e_svc, e_pf0, e_pf1, e_pf2, e_pf3, e_ar, e_aa, e_al, e_sw1, e_sw2, e_ct0, e_ct1, e_ct2, e_cat0, e_cat1, e_rk0, e_rk1, e_rk2, e_inv0, e_inv1, e_inv2, e_inv3, e_inv4, e_inv5, e_inv6, e_o0, e_o1, e_cl, e_cle, e_cg, e_cge, e_ce, e_cr1, e_cr2, e_r, e_R, e_up, Int.cast_ofNat_Int, u_app, false_and, and_false, e_b0, e_b1, e_bn, e_bl, e_bu, Int.reduceLE, Int.reduceLT, Int.reduceEq, Int.reduceNeg, Int.reduceAdd, Int.reduceSub, Int.reduceMul, Nat.reduceLeDiff, Nat.reduceLT, Nat.reduceAdd, Nat.reduceEqDiff, true_and, and_true, true_or, or_true, false_or, or_false, forall_const, not_true_eq_false, not_false_eq_true, true_implies, false_implies, implies_true, and_self, zero_ne_one, one_ne_zero, eq_self, reduceIte, s_X11_fault_0, b_X11_fault_0, g_X11_85, p_X11_85, g_X11_79]
  (repeat' (first | (refine And.intro ?_ ?_) | (intro _))) <;> first | omega | assumption | (exfalso; omega)
set_option maxRecDepth 100000 in
theorem C_X11_fault {l : Launch} {ad : Int → Nat} {D : va_G} {cy : Nat → ClassId} {Z : State → Prop} (hZ : q_Zg ad Z) : q_Ct l q_T q_N ad D cy Z yX11_fault cX11_fault 1 (some .int) rm_X11_fault sp_X11_fault := by
  obtain ⟨hf, hg, hld⟩ := q_chkS k_X11_fault
  refine q_met (rk := 0) q_wokT (by decide) rfl hf hg hld rfl (q_skS L_X11_fault o_X11_fault) ?_ ?_ ?_ ?_ B_X11_fault
  · intro i hi; exact absurd hi List.not_mem_nil
  · intro i hi; exact absurd hi List.not_mem_nil
  · intro i hi; exact absurd hi List.not_mem_nil
  · intro i hi; exact absurd hi List.not_mem_nil
theorem rv_X11_fault : q_rcv q_T yX11_fault.cls sp_X11_fault := by
  intro ra μ K h
  obtain ⟨this, rfl, h⟩ := sp_X11_fault_i h
  obtain rfl := h.1
  exact ⟨[], 85, 11, _, _, rfl, T_85, rfl, rfl⟩
theorem cm_X11_fault : Cond.code yX11_fault cX11_fault 1 (some .int) ∈ q_tb := by decide +kernel
def sp_X11_status : QP := fun ra μ K => match ra with
  | [.inr (.inr this)] => this = 85 ∧ K (some (.inl (μ 85 1))) (q_up μ 85 0 0)
  | _ => False
theorem sp_X11_status_e (this : Int) (μ : QM) (K : Option QV → QM → Prop) : sp_X11_status [.inr (.inr this)] μ K = (this = 85 ∧ K (some (.inl (μ 85 1))) (q_up μ 85 0 0)) := propext Iff.rfl
theorem sp_X11_status_i {ra : List QV} {μ : QM} {K : Option QV → QM → Prop} (h : sp_X11_status ra μ K) : ∃ this : Int, ra = [.inr (.inr this)] ∧ (this = 85 ∧ K (some (.inl (μ 85 1))) (q_up μ 85 0 0)) := by
  unfold sp_X11_status at h
  split at h
  · exact ⟨_, rfl, h⟩
  · exact h.elim
def rm_X11_status : Room := { frames := 0, cells := 0, slots := 0, locals := 0 }
def G_X11_status : Nat → Nat × QP := fun i => match i with
  | _ => (0, fun _ _ _ => False)
set_option maxRecDepth 100000 in
set_option maxHeartbeats 4000000 in
theorem B_X11_status : q_Body cX11_status 1 u_X11_status fl_X11 ld_X11 G_X11_status q_T 0 s_X11_status sp_X11_status := by
  intro S Rt hR ra μ h
  obtain ⟨this, rfl, h⟩ := sp_X11_status_i h
  refine ⟨by simp [q_sl, q_ct], ?_⟩
  show S 0 [some (.inr (.inr this))] [] μ
  obtain ⟨rfl, h2⟩ := h
  refine hR 60 [] 0 _ _ _ rfl ?_
  simp only [v_opt_n, v_opt_s, v_nil, v_iconst, v_bipush, v_sipush, v_lconst0, v_lconst1, v_ldc, v_ldcw, v_ldc2, v_iload0, v_iload1, v_iload2, v_iload3, v_iload, v_lload0, v_lload1, v_lload2, v_lload3, v_lload, v_aload0, v_aload1, v_aload2, v_aload3, v_aload, v_istore0, v_istore1, v_istore2, v_istore3, v_istore, v_lstore0, v_lstore1, v_lstore2, v_lstore3, v_lstore, v_astore0, v_astore1, v_astore2, v_astore3, v_astore, v_iinc, v_iadd, v_isub, v_imul, v_iand, v_ior, v_ixor, v_ishl, v_ishr, v_iushr, v_ineg, v_idiv, v_irem, v_ladd, v_lsub, v_lmul, v_lcmp, v_i2l, v_l2i, v_i2c, v_dup, v_dup2, v_if_eq, v_if_ne, v_if_lt, v_if_ge, v_if_gt, v_if_le, v_ic_eq, v_ic_ne, v_ic_lt, v_ic_ge, v_ic_gt, v_ic_le, v_goto, v_tsw, v_lsw, v_ireturn, v_areturn, v_return, v_iaload, v_laload, v_baload, v_caload, v_aaload, v_iastore, v_lastore, v_bastore, v_castore, v_alen, v_invvi, v_invst, v_invsp, e_int, e_lng, e_ref, e_lg0, e_lg1, e_lg2, e_lg3, e_lg4, e_lg5, e_lg6, e_lg7, e_lg8, e_lg9, e_lg10, e_lg11, e_lg12, e_lg13, e_clrI, e_clrJ, e_clrP, e_clrN, e_s0, e_s1, e_s2, e_s3, e_s4, e_s5, e_s6, e_s7, e_s8, e_s9, e_s10, e_s11, e_s12, e_s13, e_t0, e_t1, e_t2, e_t3, e_t4, e_t5, e_t6, e_t7, e_t8, e_t9, e_t10, e_t11, e_t12, e_t13, e_fd, e_kk, e_k0, e_k1, e_k2, e_k3, e_k4, e_k5, e_k6, e_k7, e_k8, e_k9, e_sv0, e_sv1, e_sv2, e_sv3, e_svc, e_pf0, e_pf1, e_pf2, e_pf3, e_ar, e_aa, e_al, e_sw1, e_sw2, e_ct0, e_ct1, e_ct2, e_cat0, e_cat1, e_rk0, e_rk1, e_rk2, e_inv0, e_inv1, e_inv2, e_inv3, e_inv4, e_inv5, e_inv6, e_o0, e_o1, e_cl, e_cle, e_cg, e_cge, e_ce, e_cr1, e_cr2, e_r, e_R, e_up, Int.cast_ofNat_Int, u_app, false_and, and_false, e_b0, e_b1, e_bn, e_bl, e_bu, Int.reduceLE, Int.reduceLT, Int.reduceEq, Int.reduceNeg, Int.reduceAdd, Int.reduceSub, Int.reduceMul, Nat.reduceLeDiff, Nat.reduceLT, Nat.reduceAdd, Nat.reduceEqDiff, true_and, and_true, true_or, or_true, false_or, or_false, forall_const, not_true_eq_false, not_false_eq_true, true_implies, false_implies, implies_true, and_self, zero_ne_one, one_ne_zero, eq_self, reduceIte, s_X11_status_0, b_X11_status_0, g_X11_85, p_X11_85, g_X11_88]
  (repeat' (first | (refine And.intro ?_ ?_) | (intro _))) <;> first | omega | assumption | (exfalso; omega)
set_option maxRecDepth 100000 in
theorem C_X11_status {l : Launch} {ad : Int → Nat} {D : va_G} {cy : Nat → ClassId} {Z : State → Prop} (hZ : q_Zg ad Z) : q_Ct l q_T q_N ad D cy Z yX11_status cX11_status 1 (some .int) rm_X11_status sp_X11_status := by
  obtain ⟨hf, hg, hld⟩ := q_chkS k_X11_status
  refine q_met (rk := 0) q_wokT (by decide) rfl hf hg hld rfl (q_skS L_X11_status o_X11_status) ?_ ?_ ?_ ?_ B_X11_status
  · intro i hi; exact absurd hi List.not_mem_nil
  · intro i hi; exact absurd hi List.not_mem_nil
  · intro i hi; exact absurd hi List.not_mem_nil
  · intro i hi; exact absurd hi List.not_mem_nil
theorem rv_X11_status : q_rcv q_T yX11_status.cls sp_X11_status := by
  intro ra μ K h
  obtain ⟨this, rfl, h⟩ := sp_X11_status_i h
  obtain rfl := h.1
  exact ⟨[], 85, 11, _, _, rfl, T_85, rfl, rfl⟩
theorem cm_X11_status : Cond.code yX11_status cX11_status 1 (some .int) ∈ q_tb := by decide +kernel
def sp_X11_cellOf : QP := fun ra μ K => match ra with
  | [.inl b, .inl a, .inl kind, .inr (.inr this)] => this = 85 ∧ (q_r kind ∧ q_r a ∧ q_r b) ∧ K (some (.inl (q_cellOf kind a b))) μ
  | _ => False
theorem sp_X11_cellOf_e (this kind a b : Int) (μ : QM) (K : Option QV → QM → Prop) : sp_X11_cellOf [.inl b, .inl a, .inl kind, .inr (.inr this)] μ K = (this = 85 ∧ (q_r kind ∧ q_r a ∧ q_r b) ∧ K (some (.inl (q_cellOf kind a b))) μ) := propext Iff.rfl
theorem sp_X11_cellOf_i {ra : List QV} {μ : QM} {K : Option QV → QM → Prop} (h : sp_X11_cellOf ra μ K) : ∃ this kind a b : Int, ra = [.inl b, .inl a, .inl kind, .inr (.inr this)] ∧ (this = 85 ∧ (q_r kind ∧ q_r a ∧ q_r b) ∧ K (some (.inl (q_cellOf kind a b))) μ) := by
  unfold sp_X11_cellOf at h
  split at h
  · exact ⟨_, _, _, _, rfl, h⟩
  · exact h.elim
def rm_X11_cellOf : Room := { frames := 2, cells := 0, slots := 0, locals := 46 }
def G_X11_cellOf : Nat → Nat × QP := fun i => match i with
  | 172 => (1, sp_X11_kept)
  | _ => (0, fun _ _ _ => False)
theorem G_X11_cellOf_172 : G_X11_cellOf 172 = (1, sp_X11_kept) := id rfl
set_option maxRecDepth 100000 in
set_option maxHeartbeats 4000000 in
theorem B_X11_cellOf : q_Body cX11_cellOf 4 u_X11_cellOf fl_X11 ld_X11 G_X11_cellOf q_T 0 s_X11_cellOf sp_X11_cellOf := by
  intro S Rt hR ra μ h
  obtain ⟨this, kind, a, b, rfl, h⟩ := sp_X11_cellOf_i h
  refine ⟨by simp [q_sl, q_ct], ?_⟩
  show S 0 [some (.inr (.inr this)), some (.inl kind), some (.inl a), some (.inl b)] [] μ
  obtain ⟨rfl, h1, h2⟩ := h
  refine hR 80 [] 0 _ _ _ rfl ?_
  have h3 := q_mulR h1.2.1 h1.2.2
  simp only [v_opt_n, v_opt_s, v_nil, v_iconst, v_bipush, v_sipush, v_lconst0, v_lconst1, v_ldc, v_ldcw, v_ldc2, v_iload0, v_iload1, v_iload2, v_iload3, v_iload, v_lload0, v_lload1, v_lload2, v_lload3, v_lload, v_aload0, v_aload1, v_aload2, v_aload3, v_aload, v_istore0, v_istore1, v_istore2, v_istore3, v_istore, v_lstore0, v_lstore1, v_lstore2, v_lstore3, v_lstore, v_astore0, v_astore1, v_astore2, v_astore3, v_astore, v_iinc, v_iadd, v_isub, v_imul, v_iand, v_ior, v_ixor, v_ishl, v_ishr, v_iushr, v_ineg, v_idiv, v_irem, v_ladd, v_lsub, v_lmul, v_lcmp, v_i2l, v_l2i, v_i2c, v_dup, v_dup2, v_if_eq, v_if_ne, v_if_lt, v_if_ge, v_if_gt, v_if_le, v_ic_eq, v_ic_ne, v_ic_lt, v_ic_ge, v_ic_gt, v_ic_le, v_goto, v_tsw, v_lsw, v_ireturn, v_areturn, v_return, v_iaload, v_laload, v_baload, v_caload, v_aaload, v_iastore, v_lastore, v_bastore, v_castore, v_alen, v_invvi, v_invst, v_invsp, e_int, e_lng, e_ref, e_lg0, e_lg1, e_lg2, e_lg3, e_lg4, e_lg5, e_lg6, e_lg7, e_lg8, e_lg9, e_lg10, e_lg11, e_lg12, e_lg13, e_clrI, e_clrJ, e_clrP, e_clrN, e_s0, e_s1, e_s2, e_s3, e_s4, e_s5, e_s6, e_s7, e_s8, e_s9, e_s10, e_s11, e_s12, e_s13, e_t0, e_t1, e_t2, e_t3, e_t4, e_t5, e_t6, e_t7, e_t8, e_t9, e_t10, e_t11, e_t12, e_t13, e_fd, e_kk, e_k0, e_k1, e_k2, e_k3, e_k4, e_k5, e_k6, e_k7, e_k8, e_k9, e_sv0, e_sv1, e_sv2, e_sv3, e_svc, e_pf0, e_pf1, e_pf2, e_pf3, e_ar, e_aa, e_al, e_sw1, e_sw2, e_ct0, e_ct1, e_ct2, e_cat0, e_cat1, e_rk0, e_rk1, e_rk2, e_inv0, e_inv1, e_inv2, e_inv3, e_inv4, e_inv5, e_inv6, e_o0, e_o1, e_cl, e_cle, e_cg, e_cge, e_ce, e_cr1, e_cr2, e_r, e_R, e_up, Int.cast_ofNat_Int, u_app, false_and, and_false, e_b0, e_b1, e_bn, e_bl, e_bu, Int.reduceLE, Int.reduceLT, Int.reduceEq, Int.reduceNeg, Int.reduceAdd, Int.reduceSub, Int.reduceMul, Nat.reduceLeDiff, Nat.reduceLT, Nat.reduceAdd, Nat.reduceEqDiff, true_and, and_true, true_or, or_true, false_or, or_false, forall_const, not_true_eq_false, not_false_eq_true, true_implies, false_implies, implies_true, and_self, zero_ne_one, one_ne_zero, eq_self, reduceIte, s_X11_cellOf_0, b_X11_cellOf_0, s_X11_cellOf_6, b_X11_cellOf_6, s_X11_cellOf_12, b_X11_cellOf_12, s_X11_cellOf_15, b_X11_cellOf_15, s_X11_cellOf_52, b_X11_cellOf_52, s_X11_cellOf_61, b_X11_cellOf_61, s_X11_cellOf_70, b_X11_cellOf_70, s_X11_cellOf_79, b_X11_cellOf_79, s_X11_cellOf_84, b_X11_cellOf_84, s_X11_cellOf_88, b_X11_cellOf_88, s_X11_cellOf_89, b_X11_cellOf_89, s_X11_cellOf_90, b_X11_cellOf_90, s_X11_cellOf_95, b_X11_cellOf_95, s_X11_cellOf_99, b_X11_cellOf_99, s_X11_cellOf_100, b_X11_cellOf_100, s_X11_cellOf_101, b_X11_cellOf_101, s_X11_cellOf_105, b_X11_cellOf_105, s_X11_cellOf_109, b_X11_cellOf_109, s_X11_cellOf_111, b_X11_cellOf_111, ld_X11_91, G_X11_cellOf_172, sp_X11_kept_e]
  unfold q_cellOf at h2
  (repeat' split at h2) <;> (repeat' (first | (refine And.intro ?_ ?_) | (intro _))) <;> first | omega | assumption | (exfalso; omega)
set_option maxRecDepth 100000 in
theorem C_X11_cellOf {l : Launch} {ad : Int → Nat} {D : va_G} {cy : Nat → ClassId} {Z : State → Prop} (hZ : q_Zg ad Z) : q_Ct l q_T q_N ad D cy Z yX11_cellOf cX11_cellOf 4 (some .int) rm_X11_cellOf sp_X11_cellOf := by
  obtain ⟨hf, hg, hld⟩ := q_chkS k_X11_cellOf
  refine q_met (rk := 0) q_wokT (by decide) rfl hf hg hld rfl (q_skS L_X11_cellOf o_X11_cellOf) ?_ ?_ ?_ ?_ B_X11_cellOf
  · intro i hi; exact absurd hi List.not_mem_nil
  · intro i hi; exact absurd hi List.not_mem_nil
  · intro i hi
    have hi : i = 172 := by simpa [u_X11_cellOf] using hi
    rcases hi with rfl
    · exact q_crS hZ.1 (C_X11_kept hZ) cm_X11_kept (by decide +kernel) (by decide +kernel) (by decide +kernel) (by decide +kernel) ⟨rfl, rfl⟩ (by decide)
  · intro i hi; exact absurd hi List.not_mem_nil
theorem rv_X11_cellOf : q_rcv q_T yX11_cellOf.cls sp_X11_cellOf := by
  intro ra μ K h
  obtain ⟨this, kind, a, b, rfl, h⟩ := sp_X11_cellOf_i h
  obtain rfl := h.1
  exact ⟨[.inl b, .inl a, .inl kind], 85, 11, _, _, rfl, T_85, rfl, rfl⟩
theorem cm_X11_cellOf : Cond.code yX11_cellOf cX11_cellOf 4 (some .int) ∈ q_tb := by decide +kernel
def sp_X11_take : QP := fun ra μ K => match ra with
  | [.inl v, .inr (.inr this)] => this = 85 ∧ (q_r v ∧ q_r (μ 85 17) ∧ q_R (μ 85 18) ∧ q_R (μ 85 19) ∧ q_R (μ 85 20)) ∧ K none (q_take v μ)
  | _ => False
theorem sp_X11_take_e (this v : Int) (μ : QM) (K : Option QV → QM → Prop) : sp_X11_take [.inl v, .inr (.inr this)] μ K = (this = 85 ∧ (q_r v ∧ q_r (μ 85 17) ∧ q_R (μ 85 18) ∧ q_R (μ 85 19) ∧ q_R (μ 85 20)) ∧ K none (q_take v μ)) := propext Iff.rfl
theorem sp_X11_take_i {ra : List QV} {μ : QM} {K : Option QV → QM → Prop} (h : sp_X11_take ra μ K) : ∃ this v : Int, ra = [.inl v, .inr (.inr this)] ∧ (this = 85 ∧ (q_r v ∧ q_r (μ 85 17) ∧ q_R (μ 85 18) ∧ q_R (μ 85 19) ∧ q_R (μ 85 20)) ∧ K none (q_take v μ)) := by
  unfold sp_X11_take at h
  split at h
  · exact ⟨_, _, rfl, h⟩
  · exact h.elim
def rm_X11_take : Room := { frames := 0, cells := 0, slots := 0, locals := 0 }
def G_X11_take : Nat → Nat × QP := fun i => match i with
  | _ => (0, fun _ _ _ => False)
set_option maxRecDepth 100000 in
set_option maxHeartbeats 4000000 in
theorem B_X11_take : q_Body cX11_take 2 u_X11_take fl_X11 ld_X11 G_X11_take q_T 4 s_X11_take sp_X11_take := by
  intro S Rt hR ra μ h
  obtain ⟨this, v, rfl, h⟩ := sp_X11_take_i h
  refine ⟨by simp [q_sl, q_ct], ?_⟩
  show S 0 [some (.inr (.inr this)), some (.inl v)] [] μ
  obtain ⟨rfl, h1, h2⟩ := h
  refine hR 80 [] 0 _ _ _ rfl ?_
  simp only [v_opt_n, v_opt_s, v_nil, v_iconst, v_bipush, v_sipush, v_lconst0, v_lconst1, v_ldc, v_ldcw, v_ldc2, v_iload0, v_iload1, v_iload2, v_iload3, v_iload, v_lload0, v_lload1, v_lload2, v_lload3, v_lload, v_aload0, v_aload1, v_aload2, v_aload3, v_aload, v_istore0, v_istore1, v_istore2, v_istore3, v_istore, v_lstore0, v_lstore1, v_lstore2, v_lstore3, v_lstore, v_astore0, v_astore1, v_astore2, v_astore3, v_astore, v_iinc, v_iadd, v_isub, v_imul, v_iand, v_ior, v_ixor, v_ishl, v_ishr, v_iushr, v_ineg, v_idiv, v_irem, v_ladd, v_lsub, v_lmul, v_lcmp, v_i2l, v_l2i, v_i2c, v_dup, v_dup2, v_if_eq, v_if_ne, v_if_lt, v_if_ge, v_if_gt, v_if_le, v_ic_eq, v_ic_ne, v_ic_lt, v_ic_ge, v_ic_gt, v_ic_le, v_goto, v_tsw, v_lsw, v_ireturn, v_areturn, v_return, v_iaload, v_laload, v_baload, v_caload, v_aaload, v_iastore, v_lastore, v_bastore, v_castore, v_alen, v_invvi, v_invst, v_invsp, e_int, e_lng, e_ref, e_lg0, e_lg1, e_lg2, e_lg3, e_lg4, e_lg5, e_lg6, e_lg7, e_lg8, e_lg9, e_lg10, e_lg11, e_lg12, e_lg13, e_clrI, e_clrJ, e_clrP, e_clrN, e_s0, e_s1, e_s2, e_s3, e_s4, e_s5, e_s6, e_s7, e_s8, e_s9, e_s10, e_s11, e_s12, e_s13, e_t0, e_t1, e_t2, e_t3, e_t4, e_t5, e_t6, e_t7, e_t8, e_t9, e_t10, e_t11, e_t12, e_t13, e_fd, e_kk, e_k0, e_k1, e_k2, e_k3, e_k4, e_k5, e_k6, e_k7, e_k8, e_k9, e_sv0, e_sv1, e_sv2, e_sv3, e_svc, e_pf0, e_pf1, e_pf2, e_pf3, e_ar, e_aa, e_al, e_sw1, e_sw2, e_ct0, e_ct1, e_ct2, e_cat0, e_cat1, e_rk0, e_rk1, e_rk2, e_inv0, e_inv1, e_inv2, e_inv3, e_inv4, e_inv5, e_inv6, e_o0, e_o1, e_cl, e_cle, e_cg, e_cge, e_ce, e_cr1, e_cr2, e_r, e_R, e_up, Int.cast_ofNat_Int, u_app, false_and, and_false, e_b0, e_b1, e_bn, e_bl, e_bu, Int.reduceLE, Int.reduceLT, Int.reduceEq, Int.reduceNeg, Int.reduceAdd, Int.reduceSub, Int.reduceMul, Nat.reduceLeDiff, Nat.reduceLT, Nat.reduceAdd, Nat.reduceEqDiff, true_and, and_true, true_or, or_true, false_or, or_false, forall_const, not_true_eq_false, not_false_eq_true, true_implies, false_implies, implies_true, and_self, zero_ne_one, one_ne_zero, eq_self, reduceIte, s_X11_take_0, b_X11_take_0, s_X11_take_6, b_X11_take_6, s_X11_take_7, b_X11_take_7, s_X11_take_15, b_X11_take_15, s_X11_take_25, b_X11_take_25, s_X11_take_30, b_X11_take_30, s_X11_take_34, b_X11_take_34, s_X11_take_45, b_X11_take_45, s_X11_take_55, b_X11_take_55, s_X11_take_60, b_X11_take_60, s_X11_take_64, b_X11_take_64, g_X11_155, p_X11_155, g_X11_162, p_X11_162, g_X11_165, p_X11_165, g_X11_158, p_X11_158, ld_X11_91]
  unfold q_take at h2
  (repeat' split at h2) <;> (repeat' (first | (refine And.intro ?_ ?_) | (intro _))) <;> first | omega | assumption | (exfalso; omega)
set_option maxRecDepth 100000 in
theorem C_X11_take {l : Launch} {ad : Int → Nat} {D : va_G} {cy : Nat → ClassId} {Z : State → Prop} (hZ : q_Zg ad Z) : q_Ct l q_T q_N ad D cy Z yX11_take cX11_take 2 none rm_X11_take sp_X11_take := by
  obtain ⟨hf, hg, hld⟩ := q_chkS k_X11_take
  refine q_met (rk := 4) q_wokT (by decide) rfl hf hg hld rfl (q_skS L_X11_take o_X11_take) ?_ ?_ ?_ ?_ B_X11_take
  · intro i hi; exact absurd hi List.not_mem_nil
  · intro i hi; exact absurd hi List.not_mem_nil
  · intro i hi; exact absurd hi List.not_mem_nil
  · intro i hi; exact absurd hi List.not_mem_nil
theorem rv_X11_take : q_rcv q_T yX11_take.cls sp_X11_take := by
  intro ra μ K h
  obtain ⟨this, v, rfl, h⟩ := sp_X11_take_i h
  obtain rfl := h.1
  exact ⟨[.inl v], 85, 11, _, _, rfl, T_85, rfl, rfl⟩
theorem cm_X11_take : Cond.code yX11_take cX11_take 2 none ∈ q_tb := by decide +kernel

