/-! the class: count, fresh, from -/
def sp_X10_count : QP := fun ra μ K => match ra with
  | [.inl what, .inr (.inr this)] => this = 0 ∧ q_r what ∧ q_pl (μ 0 5) ∧ q_mk (μ 1 2) ∧ (∀ b : Int, 0 ≤ b → b < 10 → q_mk (μ 21 b)) ∧ K (some (.inl (if what = 0 then μ 1 0 else if what = 1 then μ 1 1 else if what = 2 then μ (μ 0 5) 2 else if what = 3 then c_bc (μ 1 2) 9 else if what = 4 then μ 13 1 else if what = 5 then c_fa (μ 21) 10 else -1))) μ
  | _ => False
theorem sp_X10_count_e (this what : Int) (μ : QM) (K : Option QV → QM → Prop) : sp_X10_count [.inl what, .inr (.inr this)] μ K = (this = 0 ∧ q_r what ∧ q_pl (μ 0 5) ∧ q_mk (μ 1 2) ∧ (∀ b : Int, 0 ≤ b → b < 10 → q_mk (μ 21 b)) ∧ K (some (.inl (if what = 0 then μ 1 0 else if what = 1 then μ 1 1 else if what = 2 then μ (μ 0 5) 2 else if what = 3 then c_bc (μ 1 2) 9 else if what = 4 then μ 13 1 else if what = 5 then c_fa (μ 21) 10 else -1))) μ) := propext Iff.rfl
theorem sp_X10_count_i {ra : List QV} {μ : QM} {K : Option QV → QM → Prop} (h : sp_X10_count ra μ K) : ∃ this what : Int, ra = [.inl what, .inr (.inr this)] ∧ (this = 0 ∧ q_r what ∧ q_pl (μ 0 5) ∧ q_mk (μ 1 2) ∧ (∀ b : Int, 0 ≤ b → b < 10 → q_mk (μ 21 b)) ∧ K (some (.inl (if what = 0 then μ 1 0 else if what = 1 then μ 1 1 else if what = 2 then μ (μ 0 5) 2 else if what = 3 then c_bc (μ 1 2) 9 else if what = 4 then μ 13 1 else if what = 5 then c_fa (μ 21) 10 else -1))) μ) := by
  unfold sp_X10_count at h
  split at h
  · exact ⟨_, _, rfl, h⟩
  · exact h.elim
def rm_X10_count : Room := { frames := 2, cells := 0, slots := 0, locals := 42 }
def G_X10_count : Nat → Nat × QP := fun i => match i with
  | 178 => (1, sp_X9_freshInAll)
  | 173 => (1, sp_J6_bitCount_0f7a4)
  | _ => (0, fun _ _ _ => False)
theorem G_X10_count_178 : G_X10_count 178 = (1, sp_X9_freshInAll) := id rfl
theorem G_X10_count_173 : G_X10_count 173 = (1, sp_J6_bitCount_0f7a4) := id rfl
set_option maxRecDepth 100000 in
set_option maxHeartbeats 4000000 in
theorem B_X10_count : q_Body cX10_count 2 u_X10_count fl_X10 ld_X10 G_X10_count q_T 0 s_X10_count sp_X10_count := by
  intro S Rt hR ra μ h
  obtain ⟨this, what, rfl, h⟩ := sp_X10_count_i h
  refine ⟨by simp [q_sl, q_ct], ?_⟩
  show S 0 [some (.inr (.inr this)), some (.inl what)] [] μ
  obtain ⟨rfl, h1, hP, h2, h3, hk⟩ := h
  have hT := T_plan hP
  have h0 : 0 ≤ μ 0 5 := by omega
  refine hR 60 [] 0 _ _ _ rfl ?_
  simp only [v_opt_n, v_opt_s, v_nil, v_iconst, v_bipush, v_sipush, v_lconst0, v_lconst1, v_ldc, v_ldcw, v_ldc2, v_iload0, v_iload1, v_iload2, v_iload3, v_iload, v_lload0, v_lload1, v_lload2, v_lload3, v_lload, v_aload0, v_aload1, v_aload2, v_aload3, v_aload, v_istore0, v_istore1, v_istore2, v_istore3, v_istore, v_lstore0, v_lstore1, v_lstore2, v_lstore3, v_lstore, v_astore0, v_astore1, v_astore2, v_astore3, v_astore, v_iinc, v_iadd, v_isub, v_imul, v_iand, v_ior, v_ixor, v_ishl, v_ishr, v_iushr, v_ineg, v_idiv, v_irem, v_ladd, v_lsub, v_lmul, v_lcmp, v_i2l, v_l2i, v_i2c, v_dup, v_dup2, v_if_eq, v_if_ne, v_if_lt, v_if_ge, v_if_gt, v_if_le, v_ic_eq, v_ic_ne, v_ic_lt, v_ic_ge, v_ic_gt, v_ic_le, v_goto, v_tsw, v_lsw, v_ireturn, v_areturn, v_return, v_iaload, v_laload, v_baload, v_caload, v_aaload, v_iastore, v_lastore, v_bastore, v_castore, v_alen, v_invvi, v_invst, v_invsp, e_int, e_lng, e_ref, e_lg0, e_lg1, e_lg2, e_lg3, e_lg4, e_lg5, e_lg6, e_lg7, e_lg8, e_lg9, e_lg10, e_lg11, e_lg12, e_lg13, e_clrI, e_clrJ, e_clrP, e_clrN, e_s0, e_s1, e_s2, e_s3, e_s4, e_s5, e_s6, e_s7, e_s8, e_s9, e_s10, e_s11, e_s12, e_s13, e_t0, e_t1, e_t2, e_t3, e_t4, e_t5, e_t6, e_t7, e_t8, e_t9, e_t10, e_t11, e_t12, e_t13, e_fd, e_kk, e_k0, e_k1, e_k2, e_k3, e_k4, e_k5, e_k6, e_k7, e_k8, e_k9, e_sv0, e_sv1, e_sv2, e_sv3, e_svc, e_pf0, e_pf1, e_pf2, e_pf3, e_ar, e_aa, e_al, e_sw1, e_sw2, e_ct0, e_ct1, e_ct2, e_cat0, e_cat1, e_rk0, e_rk1, e_rk2, e_inv0, e_inv1, e_inv2, e_inv3, e_inv4, e_inv5, e_inv6, e_o0, e_o1, e_cl, e_cle, e_cg, e_cge, e_ce, e_cr1, e_cr2, e_r, e_R, e_up, Int.cast_ofNat_Int, u_app, false_and, and_false, e_b0, e_b1, e_bn, e_bl, e_bu, Int.reduceLE, Int.reduceLT, Int.reduceEq, Int.reduceNeg, Int.reduceAdd, Int.reduceSub, Int.reduceMul, Nat.reduceLeDiff, Nat.reduceLT, Nat.reduceAdd, Nat.reduceEqDiff, true_and, and_true, true_or, or_true, false_or, or_false, forall_const, not_true_eq_false, not_false_eq_true, true_implies, false_implies, implies_true, and_self, zero_ne_one, one_ne_zero, eq_self, reduceIte, v_getf, v_putf, s_X10_count_0, b_X10_count_0, s_X10_count_40, b_X10_count_40, s_X10_count_48, b_X10_count_48, s_X10_count_56, b_X10_count_56, s_X10_count_64, b_X10_count_64, s_X10_count_75, b_X10_count_75, s_X10_count_83, b_X10_count_83, s_X10_count_91, b_X10_count_91, fl_X10_12, T_0, fl_X10_164, T_1, fl_X10_167, fl_X10_33, fl_X10_125, fl_X10_170, fl_X10_26, fl_X10_114, T_13, fl_X10_54, G_X10_count_178, sp_X9_freshInAll_e, G_X10_count_173, sp_J6_bitCount_0f7a4_e, hT]
  refine ⟨h1, fun c => ?_, fun c0 => ⟨fun c => ?_, fun c1 => ⟨fun c => ?_, fun c2 => ⟨fun c => ?_, fun c3 => ⟨fun c => ?_, fun c4 => ⟨fun c => ?_, fun c5 => ?_⟩⟩⟩⟩⟩⟩
  · rw [if_pos c] at hk
    exact hk
  · rw [if_neg c0, if_pos c] at hk
    exact hk
  · rw [if_neg c0, if_neg c1, if_pos c] at hk
    exact hk
  · rw [if_neg c0, if_neg c1, if_neg c2, if_pos c] at hk
    exact ⟨h2, hk⟩
  · rw [if_neg c0, if_neg c1, if_neg c2, if_neg c3, if_pos c] at hk
    exact hk
  · rw [if_neg c0, if_neg c1, if_neg c2, if_neg c3, if_neg c4, if_pos c] at hk
    exact ⟨h3, hk⟩
  · rw [if_neg c0, if_neg c1, if_neg c2, if_neg c3, if_neg c4, if_neg c5] at hk
    exact hk
set_option maxRecDepth 100000 in
theorem C_X10_count {l : Launch} {ad : Int → Nat} {D : va_G} {cy : Nat → ClassId} {Z : State → Prop} (hZ : q_Zg ad Z) : q_Ct l q_T q_N ad D cy Z yX10_count cX10_count 2 (some .int) rm_X10_count sp_X10_count := by
  obtain ⟨hf, hg, hld⟩ := q_chkS k_X10_count
  refine q_met (rk := 0) q_wokT (by decide) rfl hf hg hld rfl (q_skS L_X10_count o_X10_count) ?_ ?_ ?_ ?_ B_X10_count
  · intro i hi; exact absurd hi List.not_mem_nil
  · intro i hi
    have hi : i = 178 := by simpa [u_X10_count] using hi
    rcases hi with rfl
    · exact q_crV hZ.1 (C_X9_freshInAll hZ) rv_X9_freshInAll cm_X9_freshInAll (by decide +kernel) (by decide +kernel) (by decide +kernel) (by decide +kernel) (by decide +kernel) ⟨rfl, rfl⟩ (by decide)
  · intro i hi
    have hi : i = 173 := by simpa [u_X10_count] using hi
    rcases hi with rfl
    · exact q_crS hZ.1 (C_J6_bitCount_0f7a4 hZ) cm_J6_bitCount_0f7a4 (by decide +kernel) (by decide +kernel) (by decide +kernel) (by decide +kernel) ⟨rfl, rfl⟩ (by decide)
  · intro i hi; exact absurd hi List.not_mem_nil
theorem rv_X10_count : q_rcv q_T yX10_count.cls sp_X10_count := by
  intro ra μ K h
  obtain ⟨this, what, rfl, h⟩ := sp_X10_count_i h
  obtain rfl := h.1
  exact ⟨[.inl what], 0, 10, _, _, rfl, T_0, rfl, rfl⟩
theorem cm_X10_count : Cond.code yX10_count cX10_count 2 (some .int) ∈ q_tb := by decide +kernel
def sp_X10_fresh : QP := fun ra μ K => match ra with
  | [.inl tile, .inl board, .inr (.inr this)] => this = 0 ∧ (q_r board ∧ q_r tile) ∧ ∃ P : Int, q_pl P ∧ μ 0 5 = P ∧ (0 ≤ μ P 2 ∧ μ P 2 ≤ 10) ∧ q_mk (μ 1 2) ∧ (∀ b : Int, 0 ≤ b → b < 10 → q_mk (μ 21 b)) ∧ K (some (.inl (if (0 ≤ board ∧ board < μ P 2) ∧ 0 ≤ tile ∧ tile < 9 ∧ q_bit (μ 1 2) tile.toNat = true then q_b (q_bit (μ 21 board) tile.toNat = true) else -1))) μ
  | _ => False
theorem sp_X10_fresh_e (this board tile : Int) (μ : QM) (K : Option QV → QM → Prop) : sp_X10_fresh [.inl tile, .inl board, .inr (.inr this)] μ K = (this = 0 ∧ (q_r board ∧ q_r tile) ∧ ∃ P : Int, q_pl P ∧ μ 0 5 = P ∧ (0 ≤ μ P 2 ∧ μ P 2 ≤ 10) ∧ q_mk (μ 1 2) ∧ (∀ b : Int, 0 ≤ b → b < 10 → q_mk (μ 21 b)) ∧ K (some (.inl (if (0 ≤ board ∧ board < μ P 2) ∧ 0 ≤ tile ∧ tile < 9 ∧ q_bit (μ 1 2) tile.toNat = true then q_b (q_bit (μ 21 board) tile.toNat = true) else -1))) μ) := propext Iff.rfl
theorem sp_X10_fresh_i {ra : List QV} {μ : QM} {K : Option QV → QM → Prop} (h : sp_X10_fresh ra μ K) : ∃ this board tile : Int, ra = [.inl tile, .inl board, .inr (.inr this)] ∧ (this = 0 ∧ (q_r board ∧ q_r tile) ∧ ∃ P : Int, q_pl P ∧ μ 0 5 = P ∧ (0 ≤ μ P 2 ∧ μ P 2 ≤ 10) ∧ q_mk (μ 1 2) ∧ (∀ b : Int, 0 ≤ b → b < 10 → q_mk (μ 21 b)) ∧ K (some (.inl (if (0 ≤ board ∧ board < μ P 2) ∧ 0 ≤ tile ∧ tile < 9 ∧ q_bit (μ 1 2) tile.toNat = true then q_b (q_bit (μ 21 board) tile.toNat = true) else -1))) μ) := by
  unfold sp_X10_fresh at h
  split at h
  · exact ⟨_, _, _, rfl, h⟩
  · exact h.elim
def rm_X10_fresh : Room := { frames := 1, cells := 0, slots := 0, locals := 22 }
def G_X10_fresh : Nat → Nat × QP := fun i => match i with
  | 126 => (2, sp_X2_has)
  | 138 => (2, sp_X0_hasTile)
  | 141 => (3, sp_X9_isFresh)
  | _ => (0, fun _ _ _ => False)
theorem G_X10_fresh_126 : G_X10_fresh 126 = (2, sp_X2_has) := id rfl
theorem G_X10_fresh_138 : G_X10_fresh 138 = (2, sp_X0_hasTile) := id rfl
theorem G_X10_fresh_141 : G_X10_fresh 141 = (3, sp_X9_isFresh) := id rfl
set_option maxRecDepth 100000 in
set_option maxHeartbeats 4000000 in
theorem B_X10_fresh : q_Body cX10_fresh 3 u_X10_fresh fl_X10 ld_X10 G_X10_fresh q_T 0 s_X10_fresh sp_X10_fresh := by
  intro S Rt hR ra μ h
  obtain ⟨this, board, tile, rfl, h⟩ := sp_X10_fresh_i h
  refine ⟨by simp [q_sl, q_ct], ?_⟩
  show S 0 [some (.inr (.inr this)), some (.inl board), some (.inl tile)] [] μ
  obtain ⟨rfl, ⟨h1, h2⟩, P, hP, e5, hl, h3, h4, hk⟩ := h
  refine hR 60 [] 0 _ _ _ rfl ?_
  simp only [v_opt_n, v_opt_s, v_nil, v_iconst, v_bipush, v_sipush, v_lconst0, v_lconst1, v_ldc, v_ldcw, v_ldc2, v_iload0, v_iload1, v_iload2, v_iload3, v_iload, v_lload0, v_lload1, v_lload2, v_lload3, v_lload, v_aload0, v_aload1, v_aload2, v_aload3, v_aload, v_istore0, v_istore1, v_istore2, v_istore3, v_istore, v_lstore0, v_lstore1, v_lstore2, v_lstore3, v_lstore, v_astore0, v_astore1, v_astore2, v_astore3, v_astore, v_iinc, v_iadd, v_isub, v_imul, v_iand, v_ior, v_ixor, v_ishl, v_ishr, v_iushr, v_ineg, v_idiv, v_irem, v_ladd, v_lsub, v_lmul, v_lcmp, v_i2l, v_l2i, v_i2c, v_dup, v_dup2, v_if_eq, v_if_ne, v_if_lt, v_if_ge, v_if_gt, v_if_le, v_ic_eq, v_ic_ne, v_ic_lt, v_ic_ge, v_ic_gt, v_ic_le, v_goto, v_tsw, v_lsw, v_ireturn, v_areturn, v_return, v_iaload, v_laload, v_baload, v_caload, v_aaload, v_iastore, v_lastore, v_bastore, v_castore, v_alen, v_invvi, v_invst, v_invsp, e_int, e_lng, e_ref, e_lg0, e_lg1, e_lg2, e_lg3, e_lg4, e_lg5, e_lg6, e_lg7, e_lg8, e_lg9, e_lg10, e_lg11, e_lg12, e_lg13, e_clrI, e_clrJ, e_clrP, e_clrN, e_s0, e_s1, e_s2, e_s3, e_s4, e_s5, e_s6, e_s7, e_s8, e_s9, e_s10, e_s11, e_s12, e_s13, e_t0, e_t1, e_t2, e_t3, e_t4, e_t5, e_t6, e_t7, e_t8, e_t9, e_t10, e_t11, e_t12, e_t13, e_fd, e_kk, e_k0, e_k1, e_k2, e_k3, e_k4, e_k5, e_k6, e_k7, e_k8, e_k9, e_sv0, e_sv1, e_sv2, e_sv3, e_svc, e_pf0, e_pf1, e_pf2, e_pf3, e_ar, e_aa, e_al, e_sw1, e_sw2, e_ct0, e_ct1, e_ct2, e_cat0, e_cat1, e_rk0, e_rk1, e_rk2, e_inv0, e_inv1, e_inv2, e_inv3, e_inv4, e_inv5, e_inv6, e_o0, e_o1, e_cl, e_cle, e_cg, e_cge, e_ce, e_cr1, e_cr2, e_r, e_R, e_up, Int.cast_ofNat_Int, u_app, false_and, and_false, e_b0, e_b1, e_bn, e_bl, e_bu, Int.reduceLE, Int.reduceLT, Int.reduceEq, Int.reduceNeg, Int.reduceAdd, Int.reduceSub, Int.reduceMul, Nat.reduceLeDiff, Nat.reduceLT, Nat.reduceAdd, Nat.reduceEqDiff, true_and, and_true, true_or, or_true, false_or, or_false, forall_const, not_true_eq_false, not_false_eq_true, true_implies, false_implies, implies_true, and_self, zero_ne_one, one_ne_zero, eq_self, reduceIte, s_X10_fresh_0, b_X10_fresh_0, s_X10_fresh_11, b_X10_fresh_11, s_X10_fresh_22, b_X10_fresh_22, s_X10_fresh_24, b_X10_fresh_24, s_X10_fresh_36, b_X10_fresh_36, s_X10_fresh_40, b_X10_fresh_40, s_X10_fresh_41, b_X10_fresh_41, g_X10_33, g_X10_12, g_X10_54, G_X10_fresh_126, sp_X2_has_e, G_X10_fresh_138, sp_X0_hasTile_e, G_X10_fresh_141, sp_X9_isFresh_e, e5]
  refine ⟨hP, ⟨h1, by omega⟩, fun c => ?_, fun c => ⟨h2, h3, fun c1 => ?_, fun c1 => ?_⟩⟩
  · rw [if_neg (fun q => c q.1)] at hk
    exact hk
  · have c := Classical.not_not.mp c
    have c1 := Classical.not_not.mp c1
    rw [if_pos ⟨c, c1⟩] at hk
    refine ⟨⟨c.1, by omega, c1.1, c1.2.1⟩, h4 board c.1 (by omega), fun c2 => ?_, fun c2 => ?_⟩
    · rw [q_bf c2] at hk
      exact hk
    · rw [q_bt (Classical.not_not.mp c2)] at hk
      exact hk
  · rw [if_neg (fun q => c1 q.2)] at hk
    exact hk
set_option maxRecDepth 100000 in
theorem C_X10_fresh {l : Launch} {ad : Int → Nat} {D : va_G} {cy : Nat → ClassId} {Z : State → Prop} (hZ : q_Zg ad Z) : q_Ct l q_T q_N ad D cy Z yX10_fresh cX10_fresh 3 (some .int) rm_X10_fresh sp_X10_fresh := by
  obtain ⟨hf, hg, hld⟩ := q_chkS k_X10_fresh
  refine q_met (rk := 0) q_wokT (by decide) rfl hf hg hld rfl (q_skS L_X10_fresh o_X10_fresh) ?_ ?_ ?_ ?_ B_X10_fresh
  · intro i hi; exact absurd hi List.not_mem_nil
  · intro i hi
    have hi : i = 126 ∨ i = 138 ∨ i = 141 := by simpa [u_X10_fresh] using hi
    rcases hi with rfl | rfl | rfl
    · exact q_crV hZ.1 (C_X2_has hZ) rv_X2_has cm_X2_has (by decide +kernel) (by decide +kernel) (by decide +kernel) (by decide +kernel) (by decide +kernel) ⟨rfl, rfl⟩ (by decide)
    · exact q_crV hZ.1 (C_X0_hasTile hZ) rv_X0_hasTile cm_X0_hasTile (by decide +kernel) (by decide +kernel) (by decide +kernel) (by decide +kernel) (by decide +kernel) ⟨rfl, rfl⟩ (by decide)
    · exact q_crV hZ.1 (C_X9_isFresh hZ) rv_X9_isFresh cm_X9_isFresh (by decide +kernel) (by decide +kernel) (by decide +kernel) (by decide +kernel) (by decide +kernel) ⟨rfl, rfl⟩ (by decide)
  · intro i hi; exact absurd hi List.not_mem_nil
  · intro i hi; exact absurd hi List.not_mem_nil
theorem rv_X10_fresh : q_rcv q_T yX10_fresh.cls sp_X10_fresh := by
  intro ra μ K h
  obtain ⟨this, board, tile, rfl, h⟩ := sp_X10_fresh_i h
  obtain rfl := h.1
  exact ⟨[.inl tile, .inl board], 0, 10, _, _, rfl, T_0, rfl, rfl⟩
theorem cm_X10_fresh : Cond.code yX10_fresh cX10_fresh 3 (some .int) ∈ q_tb := by decide +kernel

