/-! the class: public methods -/
def sp_X10_told : QP := fun ra μ K => match ra with
  | [.inl y, .inl x, .inl sheet, .inr (.inr this)] => this = 0 ∧ (q_r sheet ∧ q_r x ∧ q_r y) ∧ m_dim (μ 1 0) (μ 1 1) ∧ K (some (.inl (if (0 ≤ sheet ∧ sheet < 4) ∧ m_in (μ 1 0) (μ 1 1) x y then μ (4 + sheet) (c_p x y) else -2000000000))) μ
  | _ => False
theorem sp_X10_told_e (this sheet x y : Int) (μ : QM) (K : Option QV → QM → Prop) : sp_X10_told [.inl y, .inl x, .inl sheet, .inr (.inr this)] μ K = (this = 0 ∧ (q_r sheet ∧ q_r x ∧ q_r y) ∧ m_dim (μ 1 0) (μ 1 1) ∧ K (some (.inl (if (0 ≤ sheet ∧ sheet < 4) ∧ m_in (μ 1 0) (μ 1 1) x y then μ (4 + sheet) (c_p x y) else -2000000000))) μ) := propext Iff.rfl
theorem sp_X10_told_i {ra : List QV} {μ : QM} {K : Option QV → QM → Prop} (h : sp_X10_told ra μ K) : ∃ this sheet x y : Int, ra = [.inl y, .inl x, .inl sheet, .inr (.inr this)] ∧ (this = 0 ∧ (q_r sheet ∧ q_r x ∧ q_r y) ∧ m_dim (μ 1 0) (μ 1 1) ∧ K (some (.inl (if (0 ≤ sheet ∧ sheet < 4) ∧ m_in (μ 1 0) (μ 1 1) x y then μ (4 + sheet) (c_p x y) else -2000000000))) μ) := by
  unfold sp_X10_told at h
  split at h
  · exact ⟨_, _, _, _, rfl, h⟩
  · exact h.elim
def rm_X10_told : Room := { frames := 1, cells := 0, slots := 0, locals := 22 }
def G_X10_told : Nat → Nat × QP := fun i => match i with
  | 90 => (3, sp_X0_hasCell)
  | 84 => (1, sp_X10_isSheet)
  | 94 => (2, sp_X10_placeOf)
  | _ => (0, fun _ _ _ => False)
theorem G_X10_told_90 : G_X10_told 90 = (3, sp_X0_hasCell) := id rfl
theorem G_X10_told_84 : G_X10_told 84 = (1, sp_X10_isSheet) := id rfl
theorem G_X10_told_94 : G_X10_told 94 = (2, sp_X10_placeOf) := id rfl
set_option maxRecDepth 100000 in
set_option maxHeartbeats 4000000 in
theorem B_X10_told : q_Body cX10_told 4 u_X10_told fl_X10 ld_X10 G_X10_told q_T 0 s_X10_told sp_X10_told := by
  intro S Rt hR ra μ h
  obtain ⟨this, sheet, x, y, rfl, h⟩ := sp_X10_told_i h
  refine ⟨by simp [q_sl, q_ct], ?_⟩
  show S 0 [some (.inr (.inr this)), some (.inl sheet), some (.inl x), some (.inl y)] [] μ
  obtain ⟨rfl, ⟨h1, h2, h3⟩, hd, hk⟩ := h
  refine hR 60 [] 0 _ _ _ rfl ?_
  simp only [v_opt_n, v_opt_s, v_nil, v_iconst, v_bipush, v_sipush, v_lconst0, v_lconst1, v_ldc, v_ldcw, v_ldc2, v_iload0, v_iload1, v_iload2, v_iload3, v_iload, v_lload0, v_lload1, v_lload2, v_lload3, v_lload, v_aload0, v_aload1, v_aload2, v_aload3, v_aload, v_istore0, v_istore1, v_istore2, v_istore3, v_istore, v_lstore0, v_lstore1, v_lstore2, v_lstore3, v_lstore, v_astore0, v_astore1, v_astore2, v_astore3, v_astore, v_iinc, v_iadd, v_isub, v_imul, v_iand, v_ior, v_ixor, v_ishl, v_ishr, v_iushr, v_ineg, v_idiv, v_irem, v_ladd, v_lsub, v_lmul, v_lcmp, v_i2l, v_l2i, v_i2c, v_dup, v_dup2, v_if_eq, v_if_ne, v_if_lt, v_if_ge, v_if_gt, v_if_le, v_ic_eq, v_ic_ne, v_ic_lt, v_ic_ge, v_ic_gt, v_ic_le, v_goto, v_tsw, v_lsw, v_ireturn, v_areturn, v_return, v_iaload, v_laload, v_baload, v_caload, v_aaload, v_iastore, v_lastore, v_bastore, v_castore, v_alen, v_invvi, v_invst, v_invsp, e_int, e_lng, e_ref, e_lg0, e_lg1, e_lg2, e_lg3, e_lg4, e_lg5, e_lg6, e_lg7, e_lg8, e_lg9, e_lg10, e_lg11, e_lg12, e_lg13, e_clrI, e_clrJ, e_clrP, e_clrN, e_s0, e_s1, e_s2, e_s3, e_s4, e_s5, e_s6, e_s7, e_s8, e_s9, e_s10, e_s11, e_s12, e_s13, e_t0, e_t1, e_t2, e_t3, e_t4, e_t5, e_t6, e_t7, e_t8, e_t9, e_t10, e_t11, e_t12, e_t13, e_fd, e_kk, e_k0, e_k1, e_k2, e_k3, e_k4, e_k5, e_k6, e_k7, e_k8, e_k9, e_sv0, e_sv1, e_sv2, e_sv3, e_svc, e_pf0, e_pf1, e_pf2, e_pf3, e_ar, e_aa, e_al, e_sw1, e_sw2, e_ct0, e_ct1, e_ct2, e_cat0, e_cat1, e_rk0, e_rk1, e_rk2, e_inv0, e_inv1, e_inv2, e_inv3, e_inv4, e_inv5, e_inv6, e_o0, e_o1, e_cl, e_cle, e_cg, e_cge, e_ce, e_cr1, e_cr2, e_r, e_R, e_up, Int.cast_ofNat_Int, u_app, false_and, and_false, e_b0, e_b1, e_bn, e_bl, e_bu, Int.reduceLE, Int.reduceLT, Int.reduceEq, Int.reduceNeg, Int.reduceAdd, Int.reduceSub, Int.reduceMul, Nat.reduceLeDiff, Nat.reduceLT, Nat.reduceAdd, Nat.reduceEqDiff, true_and, and_true, true_or, or_true, false_or, or_false, forall_const, not_true_eq_false, not_false_eq_true, true_implies, false_implies, implies_true, and_self, zero_ne_one, one_ne_zero, eq_self, reduceIte, s_X10_told_0, b_X10_told_0, s_X10_told_7, b_X10_told_7, s_X10_told_19, b_X10_told_19, s_X10_told_22, b_X10_told_22, g_X10_12, g_X10_19, g_X10_103, ld_X10_102, G_X10_told_90, sp_X0_hasCell_e, G_X10_told_84, sp_X10_isSheet_e, G_X10_told_94, sp_X10_placeOf_e, T_3]
  refine ⟨h1, fun c => ?_, fun c => ⟨⟨h2, h3, by omega, by omega⟩, fun c1 => ?_, fun c1 => ?_⟩⟩
  · rw [if_neg (fun q => c q.1)] at hk
    exact hk
  · have c2 : m_in (μ 1 0) (μ 1 1) x y := Classical.not_not.mp c1
    have c3 : 0 ≤ sheet ∧ sheet < 4 := by
      first
        | exact c
        | exact Classical.not_not.mp c
    have tc := T_cell c3.1 c3.2
    rw [if_pos ⟨c3, c2⟩] at hk
    rw [tc]
    refine ⟨c3.1, c3.2, by omega, ?_⟩
    exact ⟨rfl, by omega, by omega, by omega, hk⟩
  · rw [if_neg (fun q => c1 q.2)] at hk
    exact hk
set_option maxRecDepth 100000 in
theorem C_X10_told {l : Launch} {ad : Int → Nat} {D : va_G} {cy : Nat → ClassId} {Z : State → Prop} (hZ : q_Zg ad Z) : q_Ct l q_T q_N ad D cy Z yX10_told cX10_told 4 (some .int) rm_X10_told sp_X10_told := by
  obtain ⟨hf, hg, hld⟩ := q_chkS k_X10_told
  refine q_met (rk := 0) q_wokT (by decide) rfl hf hg hld rfl (q_skS L_X10_told o_X10_told) ?_ ?_ ?_ ?_ B_X10_told
  · intro i hi; exact absurd hi List.not_mem_nil
  · intro i hi
    have hi : i = 90 := by simpa [u_X10_told] using hi
    rcases hi with rfl
    · exact q_crV hZ.1 (C_X0_hasCell hZ) rv_X0_hasCell cm_X0_hasCell (by decide +kernel) (by decide +kernel) (by decide +kernel) (by decide +kernel) (by decide +kernel) ⟨rfl, rfl⟩ (by decide)
  · intro i hi
    have hi : i = 84 ∨ i = 94 := by simpa [u_X10_told] using hi
    rcases hi with rfl | rfl
    · exact q_crS hZ.1 (C_X10_isSheet hZ) cm_X10_isSheet (by decide +kernel) (by decide +kernel) (by decide +kernel) (by decide +kernel) ⟨rfl, rfl⟩ (by decide)
    · exact q_crS hZ.1 (C_X10_placeOf hZ) cm_X10_placeOf (by decide +kernel) (by decide +kernel) (by decide +kernel) (by decide +kernel) ⟨rfl, rfl⟩ (by decide)
  · intro i hi; exact absurd hi List.not_mem_nil
theorem rv_X10_told : q_rcv q_T yX10_told.cls sp_X10_told := by
  intro ra μ K h
  obtain ⟨this, sheet, x, y, rfl, h⟩ := sp_X10_told_i h
  obtain rfl := h.1
  exact ⟨[.inl y, .inl x, .inl sheet], 0, 10, _, _, rfl, T_0, rfl, rfl⟩
theorem cm_X10_told : Cond.code yX10_told cX10_told 4 (some .int) ∈ q_tb := by decide +kernel
def sp_X10_image : QP := fun ra μ K => match ra with
  | [.inl k, .inr (.inr this)] => this = 0 ∧ q_r k ∧ (if 0 ≤ k ∧ k < 3 then K (some (.inl 0)) (q_up (q_up (c_kp μ k 4) 12 k 1) 0 8 0) else K (some (.inl (-1))) (q_up μ 0 8 (-1)))
  | _ => False
theorem sp_X10_image_e (this k : Int) (μ : QM) (K : Option QV → QM → Prop) : sp_X10_image [.inl k, .inr (.inr this)] μ K = (this = 0 ∧ q_r k ∧ (if 0 ≤ k ∧ k < 3 then K (some (.inl 0)) (q_up (q_up (c_kp μ k 4) 12 k 1) 0 8 0) else K (some (.inl (-1))) (q_up μ 0 8 (-1)))) := propext Iff.rfl
theorem sp_X10_image_i {ra : List QV} {μ : QM} {K : Option QV → QM → Prop} (h : sp_X10_image ra μ K) : ∃ this k : Int, ra = [.inl k, .inr (.inr this)] ∧ (this = 0 ∧ q_r k ∧ (if 0 ≤ k ∧ k < 3 then K (some (.inl 0)) (q_up (q_up (c_kp μ k 4) 12 k 1) 0 8 0) else K (some (.inl (-1))) (q_up μ 0 8 (-1)))) := by
  unfold sp_X10_image at h
  split at h
  · exact ⟨_, _, rfl, h⟩
  · exact h.elim
def rm_X10_image : Room := { frames := 3, cells := 0, slots := 0, locals := 86 }
def G_X10_image : Nat → Nat × QP := fun i => match i with
  | 69 => (2, sp_X10_refuse)
  | 154 => (2, sp_X5_keep)
  | 81 => (2, sp_X10_accept)
  | 151 => (1, sp_X10_isImage)
  | _ => (0, fun _ _ _ => False)
theorem G_X10_image_69 : G_X10_image 69 = (2, sp_X10_refuse) := id rfl
theorem G_X10_image_154 : G_X10_image 154 = (2, sp_X5_keep) := id rfl
theorem G_X10_image_81 : G_X10_image 81 = (2, sp_X10_accept) := id rfl
theorem G_X10_image_151 : G_X10_image 151 = (1, sp_X10_isImage) := id rfl
set_option maxRecDepth 100000 in
set_option maxHeartbeats 4000000 in
theorem B_X10_image : q_Body cX10_image 2 u_X10_image fl_X10 ld_X10 G_X10_image q_T 0 s_X10_image sp_X10_image := by
  intro S Rt hR ra μ h
  obtain ⟨this, k, rfl, h⟩ := sp_X10_image_i h
  refine ⟨by simp [q_sl, q_ct], ?_⟩
  show S 0 [some (.inr (.inr this)), some (.inl k)] [] μ
  obtain ⟨rfl, h1, hk⟩ := h
  refine hR 60 [] 0 _ _ _ rfl ?_
  simp only [v_opt_n, v_opt_s, v_nil, v_iconst, v_bipush, v_sipush, v_lconst0, v_lconst1, v_ldc, v_ldcw, v_ldc2, v_iload0, v_iload1, v_iload2, v_iload3, v_iload, v_lload0, v_lload1, v_lload2, v_lload3, v_lload, v_aload0, v_aload1, v_aload2, v_aload3, v_aload, v_istore0, v_istore1, v_istore2, v_istore3, v_istore, v_lstore0, v_lstore1, v_lstore2, v_lstore3, v_lstore, v_astore0, v_astore1, v_astore2, v_astore3, v_astore, v_iinc, v_iadd, v_isub, v_imul, v_iand, v_ior, v_ixor, v_ishl, v_ishr, v_iushr, v_ineg, v_idiv, v_irem, v_ladd, v_lsub, v_lmul, v_lcmp, v_i2l, v_l2i, v_i2c, v_dup, v_dup2, v_if_eq, v_if_ne, v_if_lt, v_if_ge, v_if_gt, v_if_le, v_ic_eq, v_ic_ne, v_ic_lt, v_ic_ge, v_ic_gt, v_ic_le, v_goto, v_tsw, v_lsw, v_ireturn, v_areturn, v_return, v_iaload, v_laload, v_baload, v_caload, v_aaload, v_iastore, v_lastore, v_bastore, v_castore, v_alen, v_invvi, v_invst, v_invsp, e_int, e_lng, e_ref, e_lg0, e_lg1, e_lg2, e_lg3, e_lg4, e_lg5, e_lg6, e_lg7, e_lg8, e_lg9, e_lg10, e_lg11, e_lg12, e_lg13, e_clrI, e_clrJ, e_clrP, e_clrN, e_s0, e_s1, e_s2, e_s3, e_s4, e_s5, e_s6, e_s7, e_s8, e_s9, e_s10, e_s11, e_s12, e_s13, e_t0, e_t1, e_t2, e_t3, e_t4, e_t5, e_t6, e_t7, e_t8, e_t9, e_t10, e_t11, e_t12, e_t13, e_fd, e_kk, e_k0, e_k1, e_k2, e_k3, e_k4, e_k5, e_k6, e_k7, e_k8, e_k9, e_sv0, e_sv1, e_sv2, e_sv3, e_svc, e_pf0, e_pf1, e_pf2, e_pf3, e_ar, e_aa, e_al, e_sw1, e_sw2, e_ct0, e_ct1, e_ct2, e_cat0, e_cat1, e_rk0, e_rk1, e_rk2, e_inv0, e_inv1, e_inv2, e_inv3, e_inv4, e_inv5, e_inv6, e_o0, e_o1, e_cl, e_cle, e_cg, e_cge, e_ce, e_cr1, e_cr2, e_r, e_R, e_up, Int.cast_ofNat_Int, u_app, false_and, and_false, e_b0, e_b1, e_bn, e_bl, e_bu, Int.reduceLE, Int.reduceLT, Int.reduceEq, Int.reduceNeg, Int.reduceAdd, Int.reduceSub, Int.reduceMul, Nat.reduceLeDiff, Nat.reduceLT, Nat.reduceAdd, Nat.reduceEqDiff, true_and, and_true, true_or, or_true, false_or, or_false, forall_const, not_true_eq_false, not_false_eq_true, true_implies, false_implies, implies_true, and_self, zero_ne_one, one_ne_zero, eq_self, reduceIte, s_X10_image_0, b_X10_image_0, s_X10_image_7, b_X10_image_7, s_X10_image_13, b_X10_image_13, g_X10_19, G_X10_image_69, sp_X10_refuse_e, G_X10_image_154, sp_X5_keep_e, G_X10_image_81, sp_X10_accept_e, G_X10_image_151, sp_X10_isImage_e]
  refine ⟨h1, fun c => ?_, fun c => ?_⟩
  · have c := Classical.not_not.mp c
    rw [if_pos c] at hk
    exact ⟨c, hk⟩
  · rw [if_neg c] at hk
    exact hk
set_option maxRecDepth 100000 in
theorem C_X10_image {l : Launch} {ad : Int → Nat} {D : va_G} {cy : Nat → ClassId} {Z : State → Prop} (hZ : q_Zg ad Z) : q_Ct l q_T q_N ad D cy Z yX10_image cX10_image 2 (some .int) rm_X10_image sp_X10_image := by
  obtain ⟨hf, hg, hld⟩ := q_chkS k_X10_image
  refine q_met (rk := 0) q_wokT (by decide) rfl hf hg hld rfl (q_skS L_X10_image o_X10_image) ?_ ?_ ?_ ?_ B_X10_image
  · intro i hi; exact absurd hi List.not_mem_nil
  · intro i hi
    have hi : i = 69 ∨ i = 154 ∨ i = 81 := by simpa [u_X10_image] using hi
    rcases hi with rfl | rfl | rfl
    · exact q_crV hZ.1 (C_X10_refuse hZ) rv_X10_refuse cm_X10_refuse (by decide +kernel) (by decide +kernel) (by decide +kernel) (by decide +kernel) (by decide +kernel) ⟨rfl, rfl⟩ (by decide)
    · exact q_crV hZ.1 (C_X5_keep hZ) rv_X5_keep cm_X5_keep (by decide +kernel) (by decide +kernel) (by decide +kernel) (by decide +kernel) (by decide +kernel) ⟨rfl, rfl⟩ (by decide)
    · exact q_crV hZ.1 (C_X10_accept hZ) rv_X10_accept cm_X10_accept (by decide +kernel) (by decide +kernel) (by decide +kernel) (by decide +kernel) (by decide +kernel) ⟨rfl, rfl⟩ (by decide)
  · intro i hi
    have hi : i = 151 := by simpa [u_X10_image] using hi
    rcases hi with rfl
    · exact q_crS hZ.1 (C_X10_isImage hZ) cm_X10_isImage (by decide +kernel) (by decide +kernel) (by decide +kernel) (by decide +kernel) ⟨rfl, rfl⟩ (by decide)
  · intro i hi; exact absurd hi List.not_mem_nil
theorem rv_X10_image : q_rcv q_T yX10_image.cls sp_X10_image := by
  intro ra μ K h
  obtain ⟨this, k, rfl, h⟩ := sp_X10_image_i h
  obtain rfl := h.1
  exact ⟨[.inl k], 0, 10, _, _, rfl, T_0, rfl, rfl⟩
theorem cm_X10_image : Cond.code yX10_image cX10_image 2 (some .int) ∈ q_tb := by decide +kernel
def sp_X10_size : QP := fun ra μ K => match ra with
  | [.inl h9, .inl w, .inr (.inr this)] => this = 0 ∧ (q_r w ∧ q_r h9) ∧ (if (2 ≤ w ∧ w ≤ 12) ∧ 2 ≤ h9 ∧ h9 ≤ 12 then K (some (.inl 0)) (q_up (q_rows (q_fill (q_fill (q_rows (q_up (q_up (q_up μ 1 0 w) 1 1 h9) 1 2 (q_tm w h9)) 4 4 196 (-2000000000)) 12 0 3 0) 21 0 10 0) 24 10 196 (-2000000000)) 0 8 0) else K (some (.inl (-1))) (q_up μ 0 8 (-1)))
  | _ => False
theorem sp_X10_size_e (this w h9 : Int) (μ : QM) (K : Option QV → QM → Prop) : sp_X10_size [.inl h9, .inl w, .inr (.inr this)] μ K = (this = 0 ∧ (q_r w ∧ q_r h9) ∧ (if (2 ≤ w ∧ w ≤ 12) ∧ 2 ≤ h9 ∧ h9 ≤ 12 then K (some (.inl 0)) (q_up (q_rows (q_fill (q_fill (q_rows (q_up (q_up (q_up μ 1 0 w) 1 1 h9) 1 2 (q_tm w h9)) 4 4 196 (-2000000000)) 12 0 3 0) 21 0 10 0) 24 10 196 (-2000000000)) 0 8 0) else K (some (.inl (-1))) (q_up μ 0 8 (-1)))) := propext Iff.rfl
theorem sp_X10_size_i {ra : List QV} {μ : QM} {K : Option QV → QM → Prop} (h : sp_X10_size ra μ K) : ∃ this w h9 : Int, ra = [.inl h9, .inl w, .inr (.inr this)] ∧ (this = 0 ∧ (q_r w ∧ q_r h9) ∧ (if (2 ≤ w ∧ w ≤ 12) ∧ 2 ≤ h9 ∧ h9 ≤ 12 then K (some (.inl 0)) (q_up (q_rows (q_fill (q_fill (q_rows (q_up (q_up (q_up μ 1 0 w) 1 1 h9) 1 2 (q_tm w h9)) 4 4 196 (-2000000000)) 12 0 3 0) 21 0 10 0) 24 10 196 (-2000000000)) 0 8 0) else K (some (.inl (-1))) (q_up μ 0 8 (-1)))) := by
  unfold sp_X10_size at h
  split at h
  · exact ⟨_, _, _, rfl, h⟩
  · exact h.elim
def rm_X10_size : Room := { frames := 2, cells := 0, slots := 0, locals := 45 }
def G_X10_size : Nat → Nat × QP := fun i => match i with
  | 69 => (2, sp_X10_refuse)
  | 73 => (3, sp_X0_shape)
  | 77 => (1, sp_X5_empty)
  | 80 => (1, sp_X9_empty)
  | 81 => (2, sp_X10_accept)
  | 65 => (1, sp_X10_isSide)
  | _ => (0, fun _ _ _ => False)
theorem G_X10_size_69 : G_X10_size 69 = (2, sp_X10_refuse) := id rfl
theorem G_X10_size_73 : G_X10_size 73 = (3, sp_X0_shape) := id rfl
theorem G_X10_size_77 : G_X10_size 77 = (1, sp_X5_empty) := id rfl
theorem G_X10_size_80 : G_X10_size 80 = (1, sp_X9_empty) := id rfl
theorem G_X10_size_81 : G_X10_size 81 = (2, sp_X10_accept) := id rfl
theorem G_X10_size_65 : G_X10_size 65 = (1, sp_X10_isSide) := id rfl
set_option maxRecDepth 100000 in
set_option maxHeartbeats 4000000 in
theorem B_X10_size : q_Body cX10_size 3 u_X10_size fl_X10 ld_X10 G_X10_size q_T 0 s_X10_size sp_X10_size := by
  intro S Rt hR ra μ h
  obtain ⟨this, w, h9, rfl, h⟩ := sp_X10_size_i h
  refine ⟨by simp [q_sl, q_ct], ?_⟩
  show S 0 [some (.inr (.inr this)), some (.inl w), some (.inl h9)] [] μ
  obtain ⟨rfl, ⟨h1, h2⟩, hk⟩ := h
  refine hR 60 [] 0 _ _ _ rfl ?_
  simp only [v_opt_n, v_opt_s, v_nil, v_iconst, v_bipush, v_sipush, v_lconst0, v_lconst1, v_ldc, v_ldcw, v_ldc2, v_iload0, v_iload1, v_iload2, v_iload3, v_iload, v_lload0, v_lload1, v_lload2, v_lload3, v_lload, v_aload0, v_aload1, v_aload2, v_aload3, v_aload, v_istore0, v_istore1, v_istore2, v_istore3, v_istore, v_lstore0, v_lstore1, v_lstore2, v_lstore3, v_lstore, v_astore0, v_astore1, v_astore2, v_astore3, v_astore, v_iinc, v_iadd, v_isub, v_imul, v_iand, v_ior, v_ixor, v_ishl, v_ishr, v_iushr, v_ineg, v_idiv, v_irem, v_ladd, v_lsub, v_lmul, v_lcmp, v_i2l, v_l2i, v_i2c, v_dup, v_dup2, v_if_eq, v_if_ne, v_if_lt, v_if_ge, v_if_gt, v_if_le, v_ic_eq, v_ic_ne, v_ic_lt, v_ic_ge, v_ic_gt, v_ic_le, v_goto, v_tsw, v_lsw, v_ireturn, v_areturn, v_return, v_iaload, v_laload, v_baload, v_caload, v_aaload, v_iastore, v_lastore, v_bastore, v_castore, v_alen, v_invvi, v_invst, v_invsp, e_int, e_lng, e_ref, e_lg0, e_lg1, e_lg2, e_lg3, e_lg4, e_lg5, e_lg6, e_lg7, e_lg8, e_lg9, e_lg10, e_lg11, e_lg12, e_lg13, e_clrI, e_clrJ, e_clrP, e_clrN, e_s0, e_s1, e_s2, e_s3, e_s4, e_s5, e_s6, e_s7, e_s8, e_s9, e_s10, e_s11, e_s12, e_s13, e_t0, e_t1, e_t2, e_t3, e_t4, e_t5, e_t6, e_t7, e_t8, e_t9, e_t10, e_t11, e_t12, e_t13, e_fd, e_kk, e_k0, e_k1, e_k2, e_k3, e_k4, e_k5, e_k6, e_k7, e_k8, e_k9, e_sv0, e_sv1, e_sv2, e_sv3, e_svc, e_pf0, e_pf1, e_pf2, e_pf3, e_ar, e_aa, e_al, e_sw1, e_sw2, e_ct0, e_ct1, e_ct2, e_cat0, e_cat1, e_rk0, e_rk1, e_rk2, e_inv0, e_inv1, e_inv2, e_inv3, e_inv4, e_inv5, e_inv6, e_o0, e_o1, e_cl, e_cle, e_cg, e_cge, e_ce, e_cr1, e_cr2, e_r, e_R, e_up, Int.cast_ofNat_Int, u_app, false_and, and_false, e_b0, e_b1, e_bn, e_bl, e_bu, Int.reduceLE, Int.reduceLT, Int.reduceEq, Int.reduceNeg, Int.reduceAdd, Int.reduceSub, Int.reduceMul, Nat.reduceLeDiff, Nat.reduceLT, Nat.reduceAdd, Nat.reduceEqDiff, true_and, and_true, true_or, or_true, false_or, or_false, forall_const, not_true_eq_false, not_false_eq_true, true_implies, false_implies, implies_true, and_self, zero_ne_one, one_ne_zero, eq_self, reduceIte, s_X10_size_0, b_X10_size_0, s_X10_size_7, b_X10_size_7, s_X10_size_14, b_X10_size_14, s_X10_size_20, b_X10_size_20, g_X10_12, g_X10_19, g_X10_54, G_X10_size_69, sp_X10_refuse_e, G_X10_size_73, sp_X0_shape_e, G_X10_size_77, sp_X5_empty_e, G_X10_size_80, sp_X9_empty_e, G_X10_size_81, sp_X10_accept_e, G_X10_size_65, sp_X10_isSide_e]
  refine ⟨h1, fun c => ?_, fun c => ⟨h2, fun c1 => ?_, fun c1 => ?_⟩⟩
  · rw [if_neg (fun q => c q.1)] at hk
    exact hk
  · have c := Classical.not_not.mp c
    have c1 := Classical.not_not.mp c1
    rw [if_pos ⟨c, c1⟩] at hk
    exact ⟨by omega, hk⟩
  · rw [if_neg (fun q => c1 q.2)] at hk
    exact hk
set_option maxRecDepth 100000 in
theorem C_X10_size {l : Launch} {ad : Int → Nat} {D : va_G} {cy : Nat → ClassId} {Z : State → Prop} (hZ : q_Zg ad Z) : q_Ct l q_T q_N ad D cy Z yX10_size cX10_size 3 (some .int) rm_X10_size sp_X10_size := by
  obtain ⟨hf, hg, hld⟩ := q_chkS k_X10_size
  refine q_met (rk := 0) q_wokT (by decide) rfl hf hg hld rfl (q_skS L_X10_size o_X10_size) ?_ ?_ ?_ ?_ B_X10_size
  · intro i hi; exact absurd hi List.not_mem_nil
  · intro i hi
    have hi : i = 69 ∨ i = 73 ∨ i = 77 ∨ i = 80 ∨ i = 81 := by simpa [u_X10_size] using hi
    rcases hi with rfl | rfl | rfl | rfl | rfl
    · exact q_crV hZ.1 (C_X10_refuse hZ) rv_X10_refuse cm_X10_refuse (by decide +kernel) (by decide +kernel) (by decide +kernel) (by decide +kernel) (by decide +kernel) ⟨rfl, rfl⟩ (by decide)
    · exact q_crV hZ.1 (C_X0_shape hZ) rv_X0_shape cm_X0_shape (by decide +kernel) (by decide +kernel) (by decide +kernel) (by decide +kernel) (by decide +kernel) ⟨rfl, rfl⟩ (by decide)
    · exact q_crV hZ.1 (C_X5_empty hZ) rv_X5_empty cm_X5_empty (by decide +kernel) (by decide +kernel) (by decide +kernel) (by decide +kernel) (by decide +kernel) ⟨rfl, rfl⟩ (by decide)
    · exact q_crV hZ.1 (C_X9_empty hZ) rv_X9_empty cm_X9_empty (by decide +kernel) (by decide +kernel) (by decide +kernel) (by decide +kernel) (by decide +kernel) ⟨rfl, rfl⟩ (by decide)
    · exact q_crV hZ.1 (C_X10_accept hZ) rv_X10_accept cm_X10_accept (by decide +kernel) (by decide +kernel) (by decide +kernel) (by decide +kernel) (by decide +kernel) ⟨rfl, rfl⟩ (by decide)
  · intro i hi
    have hi : i = 65 := by simpa [u_X10_size] using hi
    rcases hi with rfl
    · exact q_crS hZ.1 (C_X10_isSide hZ) cm_X10_isSide (by decide +kernel) (by decide +kernel) (by decide +kernel) (by decide +kernel) ⟨rfl, rfl⟩ (by decide)
  · intro i hi; exact absurd hi List.not_mem_nil
theorem rv_X10_size : q_rcv q_T yX10_size.cls sp_X10_size := by
  intro ra μ K h
  obtain ⟨this, w, h9, rfl, h⟩ := sp_X10_size_i h
  obtain rfl := h.1
  exact ⟨[.inl h9, .inl w], 0, 10, _, _, rfl, T_0, rfl, rfl⟩
theorem cm_X10_size : Cond.code yX10_size cX10_size 3 (some .int) ∈ q_tb := by decide +kernel

