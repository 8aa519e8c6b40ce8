/-! the reference: image, count, back -/
def m_img (μ : QM) (k i : Int) : QM := fun a j => if a = 87 ∧ 576 * k ≤ j ∧ j < 576 * k + i then μ 86 (j - 576 * k) else μ a j
theorem u_img (μ : QM) (k i a j : Int) : m_img μ k i a j = if a = 87 ∧ 576 * k ≤ j ∧ j < 576 * k + i then μ 86 (j - 576 * k) else μ a j := id rfl
theorem m_img_0 {μ : QM} {k : Int} : m_img μ k 0 = μ := by
  funext a j
  exact if_neg (by omega)
theorem m_img_s {μ : QM} {k i : Int} (h : 0 ≤ i) : q_up (m_img μ k i) 87 (576 * k + i) (μ 86 i) = m_img μ k (i + 1) := by
  funext a j
  simp only [u_app, u_img]
  by_cases c1 : a = 87 ∧ j = 576 * k + i
  · rw [if_pos c1, if_pos (by omega), c1.2, show 576 * k + i - 576 * k = i by omega]
  · rw [if_neg c1]
    by_cases c2 : a = 87 ∧ 576 * k ≤ j ∧ j < 576 * k + i
    · rw [if_pos c2, if_pos (show a = 87 ∧ 576 * k ≤ j ∧ j < 576 * k + (i + 1) by omega)]
    · rw [if_neg c2, if_neg (show ¬ (a = 87 ∧ 576 * k ≤ j ∧ j < 576 * k + (i + 1)) by omega)]
def sp_X11_image : QP := fun ra μ K => match ra with
  | [.inl k, .inr (.inr this)] => this = 85 ∧ q_r k ∧ (if 0 ≤ k ∧ k ≤ 2 then K (some (.inl 0)) (q_up (q_up (m_img (q_up μ 85 0 0) k 576) 88 k 1) 85 1 0) else K (some (.inl (-1))) (q_up (q_up μ 85 0 0) 85 1 (-1)))
  | _ => False
theorem sp_X11_image_e (this k : Int) (μ : QM) (K : Option QV → QM → Prop) : sp_X11_image [.inl k, .inr (.inr this)] μ K = (this = 85 ∧ q_r k ∧ (if 0 ≤ k ∧ k ≤ 2 then K (some (.inl 0)) (q_up (q_up (m_img (q_up μ 85 0 0) k 576) 88 k 1) 85 1 0) else K (some (.inl (-1))) (q_up (q_up μ 85 0 0) 85 1 (-1)))) := propext Iff.rfl
theorem sp_X11_image_i {ra : List QV} {μ : QM} {K : Option QV → QM → Prop} (h : sp_X11_image ra μ K) : ∃ this k : Int, ra = [.inl k, .inr (.inr this)] ∧ (this = 85 ∧ q_r k ∧ (if 0 ≤ k ∧ k ≤ 2 then K (some (.inl 0)) (q_up (q_up (m_img (q_up μ 85 0 0) k 576) 88 k 1) 85 1 0) else K (some (.inl (-1))) (q_up (q_up μ 85 0 0) 85 1 (-1)))) := by
  unfold sp_X11_image at h
  split at h
  · exact ⟨_, _, rfl, h⟩
  · exact h.elim
def rm_X11_image : Room := { frames := 1, cells := 0, slots := 0, locals := 25 }
def G_X11_image : Nat → Nat × QP := fun i => match i with
  | 103 => (2, sp_X11_answer)
  | 95 => (3, sp_X11_in)
  | _ => (0, fun _ _ _ => False)
theorem G_X11_image_103 : G_X11_image 103 = (2, sp_X11_answer) := id rfl
theorem G_X11_image_95 : G_X11_image 95 = (3, sp_X11_in) := id rfl
set_option maxRecDepth 100000 in
theorem image_loop {Rt : Option QV → QM → Prop} {S : Nat → QL → List QV → QM → Prop} (hR : q_Rule cX11_image 3 u_X11_image fl_X11 ld_X11 G_X11_image q_T 0 s_X11_image Rt S) {μ : QM} {k : Int} (hk : 0 ≤ k ∧ k ≤ 2) : ∀ (n : Nat) (i : Int), 0 ≤ i → i ≤ 576 → 576 - i < n → Rt (some (.inl 0)) (q_up (q_up (m_img μ k 576) 88 k 1) 85 1 0) → S 25 [some (.inr (.inr 85)), some (.inl k), some (.inl i)] [] (m_img μ k i) := by
  intro n
  induction n with
  | zero => intro i h1 h2 h3; omega
  | succ n ih =>
    intro i h1 h2 h3 h4
    refine hR 60 b_X11_image_25 25 _ _ _ o_X11_image_25 ?_
    simp only [v_opt_n, v_opt_s, v_nil, v_iconst, v_bipush, v_sipush, v_lconst0, v_lconst1, v_ldc, v_ldcw, v_ldc2, v_iload0, v_iload1, v_iload2, v_iload3, v_iload, v_lload0, v_lload1, v_lload2, v_lload3, v_lload, v_aload0, v_aload1, v_aload2, v_aload3, v_aload, v_istore0, v_istore1, v_istore2, v_istore3, v_istore, v_lstore0, v_lstore1, v_lstore2, v_lstore3, v_lstore, v_astore0, v_astore1, v_astore2, v_astore3, v_astore, v_iinc, v_iadd, v_isub, v_imul, v_iand, v_ior, v_ixor, v_ishl, v_ishr, v_iushr, v_ineg, v_idiv, v_irem, v_ladd, v_lsub, v_lmul, v_lcmp, v_i2l, v_l2i, v_i2c, v_dup, v_dup2, v_if_eq, v_if_ne, v_if_lt, v_if_ge, v_if_gt, v_if_le, v_ic_eq, v_ic_ne, v_ic_lt, v_ic_ge, v_ic_gt, v_ic_le, v_goto, v_tsw, v_lsw, v_ireturn, v_areturn, v_return, v_iaload, v_laload, v_baload, v_caload, v_aaload, v_iastore, v_lastore, v_bastore, v_castore, v_alen, v_invvi, v_invst, v_invsp, e_int, e_lng, e_ref, e_lg0, e_lg1, e_lg2, e_lg3, e_lg4, e_lg5, e_lg6, e_lg7, e_lg8, e_lg9, e_lg10, e_lg11, e_lg12, e_lg13, e_clrI, e_clrJ, e_clrP, e_clrN, e_s0, e_s1, e_s2, e_s3, e_s4, e_s5, e_s6, e_s7, e_s8, e_s9, e_s10, e_s11, e_s12, e_s13, e_t0, e_t1, e_t2, e_t3, e_t4, e_t5, e_t6, e_t7, e_t8, e_t9, e_t10, e_t11, e_t12, e_t13, e_fd, e_kk, e_k0, e_k1, e_k2, e_k3, e_k4, e_k5, e_k6, e_k7, e_k8, e_k9, e_sv0, e_sv1, e_sv2, e_sv3, e_svc, e_pf0, e_pf1, e_pf2, e_pf3, e_ar, e_aa, e_al, e_sw1, e_sw2, e_ct0, e_ct1, e_ct2, e_cat0, e_cat1, e_rk0, e_rk1, e_rk2, e_inv0, e_inv1, e_inv2, e_inv3, e_inv4, e_inv5, e_inv6, e_o0, e_o1, e_cl, e_cle, e_cg, e_cge, e_ce, e_cr1, e_cr2, e_r, e_R, e_up, Int.cast_ofNat_Int, u_app, false_and, and_false, e_b0, e_b1, e_bn, e_bl, e_bu, Int.reduceLE, Int.reduceLT, Int.reduceEq, Int.reduceNeg, Int.reduceAdd, Int.reduceSub, Int.reduceMul, Nat.reduceLeDiff, Nat.reduceLT, Nat.reduceAdd, Nat.reduceEqDiff, true_and, and_true, true_or, or_true, false_or, or_false, forall_const, not_true_eq_false, not_false_eq_true, true_implies, false_implies, implies_true, and_self, zero_ne_one, one_ne_zero, eq_self, reduceIte, s_X11_image_0, b_X11_image_0, s_X11_image_17, b_X11_image_17, s_X11_image_23, b_X11_image_23, s_X11_image_25, b_X11_image_25, s_X11_image_32, b_X11_image_32, s_X11_image_56, b_X11_image_56, g_X11_85, p_X11_85, g_X11_20, g_X11_16, g_X11_23, ld_X11_99, G_X11_image_103, sp_X11_answer_e, G_X11_image_95, sp_X11_in_e, T_86, T_87, T_88, u_img]
    refine ⟨by omega, fun c => ?_, fun c => ?_⟩
    · have e : i = 576 := by omega
      subst e
      exact ⟨by omega, by omega, h4⟩
    · refine ⟨by omega, by omega, by omega, by omega, ?_⟩
      rw [m_img_s h1]
      exact ih (i + 1) (by omega) (by omega) (by omega) h4
set_option maxRecDepth 100000 in
set_option maxHeartbeats 4000000 in
theorem B_X11_image : q_Body cX11_image 3 u_X11_image fl_X11 ld_X11 G_X11_image q_T 0 s_X11_image sp_X11_image := by
  intro S Rt hR ra μ h
  obtain ⟨this, k, rfl, h⟩ := sp_X11_image_i h
  refine ⟨by simp [q_sl, q_ct], ?_⟩
  show S 0 [some (.inr (.inr this)), some (.inl k), none] [] μ
  obtain ⟨rfl, h1, hk⟩ := h
  refine hR 80 [] 0 _ _ _ rfl ?_
  simp only [v_opt_n, v_opt_s, v_nil, v_iconst, v_bipush, v_sipush, v_lconst0, v_lconst1, v_ldc, v_ldcw, v_ldc2, v_iload0, v_iload1, v_iload2, v_iload3, v_iload, v_lload0, v_lload1, v_lload2, v_lload3, v_lload, v_aload0, v_aload1, v_aload2, v_aload3, v_aload, v_istore0, v_istore1, v_istore2, v_istore3, v_istore, v_lstore0, v_lstore1, v_lstore2, v_lstore3, v_lstore, v_astore0, v_astore1, v_astore2, v_astore3, v_astore, v_iinc, v_iadd, v_isub, v_imul, v_iand, v_ior, v_ixor, v_ishl, v_ishr, v_iushr, v_ineg, v_idiv, v_irem, v_ladd, v_lsub, v_lmul, v_lcmp, v_i2l, v_l2i, v_i2c, v_dup, v_dup2, v_if_eq, v_if_ne, v_if_lt, v_if_ge, v_if_gt, v_if_le, v_ic_eq, v_ic_ne, v_ic_lt, v_ic_ge, v_ic_gt, v_ic_le, v_goto, v_tsw, v_lsw, v_ireturn, v_areturn, v_return, v_iaload, v_laload, v_baload, v_caload, v_aaload, v_iastore, v_lastore, v_bastore, v_castore, v_alen, v_invvi, v_invst, v_invsp, e_int, e_lng, e_ref, e_lg0, e_lg1, e_lg2, e_lg3, e_lg4, e_lg5, e_lg6, e_lg7, e_lg8, e_lg9, e_lg10, e_lg11, e_lg12, e_lg13, e_clrI, e_clrJ, e_clrP, e_clrN, e_s0, e_s1, e_s2, e_s3, e_s4, e_s5, e_s6, e_s7, e_s8, e_s9, e_s10, e_s11, e_s12, e_s13, e_t0, e_t1, e_t2, e_t3, e_t4, e_t5, e_t6, e_t7, e_t8, e_t9, e_t10, e_t11, e_t12, e_t13, e_fd, e_kk, e_k0, e_k1, e_k2, e_k3, e_k4, e_k5, e_k6, e_k7, e_k8, e_k9, e_sv0, e_sv1, e_sv2, e_sv3, e_svc, e_pf0, e_pf1, e_pf2, e_pf3, e_ar, e_aa, e_al, e_sw1, e_sw2, e_ct0, e_ct1, e_ct2, e_cat0, e_cat1, e_rk0, e_rk1, e_rk2, e_inv0, e_inv1, e_inv2, e_inv3, e_inv4, e_inv5, e_inv6, e_o0, e_o1, e_cl, e_cle, e_cg, e_cge, e_ce, e_cr1, e_cr2, e_r, e_R, e_up, Int.cast_ofNat_Int, u_app, false_and, and_false, e_b0, e_b1, e_bn, e_bl, e_bu, Int.reduceLE, Int.reduceLT, Int.reduceEq, Int.reduceNeg, Int.reduceAdd, Int.reduceSub, Int.reduceMul, Nat.reduceLeDiff, Nat.reduceLT, Nat.reduceAdd, Nat.reduceEqDiff, true_and, and_true, true_or, or_true, false_or, or_false, forall_const, not_true_eq_false, not_false_eq_true, true_implies, false_implies, implies_true, and_self, zero_ne_one, one_ne_zero, eq_self, reduceIte, s_X11_image_0, b_X11_image_0, s_X11_image_17, b_X11_image_17, s_X11_image_23, b_X11_image_23, s_X11_image_25, b_X11_image_25, s_X11_image_32, b_X11_image_32, s_X11_image_56, b_X11_image_56, g_X11_85, p_X11_85, g_X11_20, g_X11_16, g_X11_23, ld_X11_99, G_X11_image_103, sp_X11_answer_e, G_X11_image_95, sp_X11_in_e]
  split at hk
  · rename_i c
    refine ⟨by omega, by omega, fun _ => ?_, fun q => absurd c q⟩
    have := image_loop hR c 577 0 (by omega) (by omega) (by omega) hk
    rw [m_img_0] at this
    exact this
  · (repeat' (first | assumption | (refine And.intro ?_ ?_) | (intro _))) <;> first | omega | (exfalso; omega)
set_option maxRecDepth 100000 in
theorem C_X11_image {l : Launch} {ad : Int → Nat} {D : va_G} {cy : Nat → ClassId} {Z : State → Prop} (hZ : q_Zg ad Z) : q_Ct l q_T q_N ad D cy Z yX11_image cX11_image 3 (some .int) rm_X11_image sp_X11_image := by
  obtain ⟨hf, hg, hld⟩ := q_chkS k_X11_image
  refine q_met (rk := 0) q_wokT (by decide) rfl hf hg hld rfl (q_skS L_X11_image o_X11_image) ?_ ?_ ?_ ?_ B_X11_image
  · intro i hi; exact absurd hi List.not_mem_nil
  · intro i hi
    have hi : i = 103 := by simpa [u_X11_image] using hi
    rcases hi with rfl
    · exact q_crV hZ.1 (C_X11_answer hZ) rv_X11_answer cm_X11_answer (by decide +kernel) (by decide +kernel) (by decide +kernel) (by decide +kernel) (by decide +kernel) ⟨rfl, rfl⟩ (by decide)
  · intro i hi
    have hi : i = 95 := by simpa [u_X11_image] using hi
    rcases hi with rfl
    · exact q_crS hZ.1 (C_X11_in hZ) cm_X11_in (by decide +kernel) (by decide +kernel) (by decide +kernel) (by decide +kernel) ⟨rfl, rfl⟩ (by decide)
  · intro i hi; exact absurd hi List.not_mem_nil
theorem rv_X11_image : q_rcv q_T yX11_image.cls sp_X11_image := by
  intro ra μ K h
  obtain ⟨this, k, rfl, h⟩ := sp_X11_image_i h
  obtain rfl := h.1
  exact ⟨[.inl k], 85, 11, _, _, rfl, T_85, rfl, rfl⟩
theorem cm_X11_image : Cond.code yX11_image cX11_image 3 (some .int) ∈ q_tb := by decide +kernel
def m_tcn (w h : Int) : Nat → Int
  | 0 => 0
  | n + 1 => m_tcn w h n + (if m_tl w h (n : Int) then 1 else 0)
def m_fcn (f : Int → Int) : Nat → Int
  | 0 => 0
  | n + 1 => m_fcn f n + (if f (n : Int) = 0 then 0 else 1)
def sp_X11_count : QP := fun ra μ K => match ra with
  | [.inl what, .inr (.inr this)] => this = 85 ∧ q_r what ∧ (q_r (μ 85 2) ∧ q_r (μ 85 3)) ∧ (0 ≤ μ 85 7 ∧ μ 85 7 ≤ 10) ∧ (∀ j : Int, q_r (μ 94 j)) ∧ K (some (.inl (if what = 0 then μ 85 2 else if what = 1 then μ 85 3 else if what = 2 then μ 85 7 else if what = 3 then m_tcn (μ 85 2) (μ 85 3) 9 else if what = 4 then μ 85 31 else if what = 5 then m_fcn (μ 94) (9 * μ 85 7).toNat else -1))) (q_up μ 85 0 0)
  | _ => False
theorem sp_X11_count_e (this what : Int) (μ : QM) (K : Option QV → QM → Prop) : sp_X11_count [.inl what, .inr (.inr this)] μ K = (this = 85 ∧ q_r what ∧ (q_r (μ 85 2) ∧ q_r (μ 85 3)) ∧ (0 ≤ μ 85 7 ∧ μ 85 7 ≤ 10) ∧ (∀ j : Int, q_r (μ 94 j)) ∧ K (some (.inl (if what = 0 then μ 85 2 else if what = 1 then μ 85 3 else if what = 2 then μ 85 7 else if what = 3 then m_tcn (μ 85 2) (μ 85 3) 9 else if what = 4 then μ 85 31 else if what = 5 then m_fcn (μ 94) (9 * μ 85 7).toNat else -1))) (q_up μ 85 0 0)) := propext Iff.rfl
theorem sp_X11_count_i {ra : List QV} {μ : QM} {K : Option QV → QM → Prop} (h : sp_X11_count ra μ K) : ∃ this what : Int, ra = [.inl what, .inr (.inr this)] ∧ (this = 85 ∧ q_r what ∧ (q_r (μ 85 2) ∧ q_r (μ 85 3)) ∧ (0 ≤ μ 85 7 ∧ μ 85 7 ≤ 10) ∧ (∀ j : Int, q_r (μ 94 j)) ∧ K (some (.inl (if what = 0 then μ 85 2 else if what = 1 then μ 85 3 else if what = 2 then μ 85 7 else if what = 3 then m_tcn (μ 85 2) (μ 85 3) 9 else if what = 4 then μ 85 31 else if what = 5 then m_fcn (μ 94) (9 * μ 85 7).toNat else -1))) (q_up μ 85 0 0)) := by
  unfold sp_X11_count at h
  split at h
  · exact ⟨_, _, rfl, h⟩
  · exact h.elim
def rm_X11_count : Room := { frames := 2, cells := 0, slots := 0, locals := 46 }
def G_X11_count : Nat → Nat × QP := fun i => match i with
  | 134 => (2, sp_X11_isTile)
  | _ => (0, fun _ _ _ => False)
theorem G_X11_count_134 : G_X11_count 134 = (2, sp_X11_isTile) := id rfl
set_option maxRecDepth 100000 in
theorem count_3 {Rt : Option QV → QM → Prop} {S : Nat → QL → List QV → QM → Prop} (hR : q_Rule cX11_count 4 u_X11_count fl_X11 ld_X11 G_X11_count q_T 0 s_X11_count Rt S) {μ : QM} {k : Int} (hw : q_r (μ 85 2) ∧ q_r (μ 85 3)) (hk : Rt (some (.inl (m_tcn (μ 85 2) (μ 85 3) 9))) μ) : ∀ (d i : Nat), i + d = 9 → S 65 [some (.inr (.inr 85)), some (.inl k), some (.inl (m_tcn (μ 85 2) (μ 85 3) i)), some (.inl (i : Int))] [] μ := by
  intro d
  induction d with
  | zero =>
    intro i h1
    obtain rfl : i = 9 := by omega
    refine hR 60 b_X11_count_65 65 _ _ _ o_X11_count_65 ?_
    simp only [v_opt_n, v_opt_s, v_nil, v_iconst, v_bipush, v_sipush, v_lconst0, v_lconst1, v_ldc, v_ldcw, v_ldc2, v_iload0, v_iload1, v_iload2, v_iload3, v_iload, v_lload0, v_lload1, v_lload2, v_lload3, v_lload, v_aload0, v_aload1, v_aload2, v_aload3, v_aload, v_istore0, v_istore1, v_istore2, v_istore3, v_istore, v_lstore0, v_lstore1, v_lstore2, v_lstore3, v_lstore, v_astore0, v_astore1, v_astore2, v_astore3, v_astore, v_iinc, v_iadd, v_isub, v_imul, v_iand, v_ior, v_ixor, v_ishl, v_ishr, v_iushr, v_ineg, v_idiv, v_irem, v_ladd, v_lsub, v_lmul, v_lcmp, v_i2l, v_l2i, v_i2c, v_dup, v_dup2, v_if_eq, v_if_ne, v_if_lt, v_if_ge, v_if_gt, v_if_le, v_ic_eq, v_ic_ne, v_ic_lt, v_ic_ge, v_ic_gt, v_ic_le, v_goto, v_tsw, v_lsw, v_ireturn, v_areturn, v_return, v_iaload, v_laload, v_baload, v_caload, v_aaload, v_iastore, v_lastore, v_bastore, v_castore, v_alen, v_invvi, v_invst, v_invsp, e_int, e_lng, e_ref, e_lg0, e_lg1, e_lg2, e_lg3, e_lg4, e_lg5, e_lg6, e_lg7, e_lg8, e_lg9, e_lg10, e_lg11, e_lg12, e_lg13, e_clrI, e_clrJ, e_clrP, e_clrN, e_s0, e_s1, e_s2, e_s3, e_s4, e_s5, e_s6, e_s7, e_s8, e_s9, e_s10, e_s11, e_s12, e_s13, e_t0, e_t1, e_t2, e_t3, e_t4, e_t5, e_t6, e_t7, e_t8, e_t9, e_t10, e_t11, e_t12, e_t13, e_fd, e_kk, e_k0, e_k1, e_k2, e_k3, e_k4, e_k5, e_k6, e_k7, e_k8, e_k9, e_sv0, e_sv1, e_sv2, e_sv3, e_svc, e_pf0, e_pf1, e_pf2, e_pf3, e_ar, e_aa, e_al, e_sw1, e_sw2, e_ct0, e_ct1, e_ct2, e_cat0, e_cat1, e_rk0, e_rk1, e_rk2, e_inv0, e_inv1, e_inv2, e_inv3, e_inv4, e_inv5, e_inv6, e_o0, e_o1, e_cl, e_cle, e_cg, e_cge, e_ce, e_cr1, e_cr2, e_r, e_R, e_up, Int.cast_ofNat_Int, u_app, false_and, and_false, e_b0, e_b1, e_bn, e_bl, e_bu, Int.reduceLE, Int.reduceLT, Int.reduceEq, Int.reduceNeg, Int.reduceAdd, Int.reduceSub, Int.reduceMul, Nat.reduceLeDiff, Nat.reduceLT, Nat.reduceAdd, Nat.reduceEqDiff, true_and, and_true, true_or, or_true, false_or, or_false, forall_const, not_true_eq_false, not_false_eq_true, true_implies, false_implies, implies_true, and_self, zero_ne_one, one_ne_zero, eq_self, reduceIte, s_X11_count_0, b_X11_count_0, s_X11_count_48, b_X11_count_48, s_X11_count_53, b_X11_count_53, s_X11_count_58, b_X11_count_58, s_X11_count_63, b_X11_count_63, s_X11_count_65, b_X11_count_65, s_X11_count_71, b_X11_count_71, s_X11_count_80, b_X11_count_80, s_X11_count_84, b_X11_count_84, s_X11_count_85, b_X11_count_85, s_X11_count_93, b_X11_count_93, s_X11_count_95, b_X11_count_95, s_X11_count_100, b_X11_count_100, s_X11_count_102, b_X11_count_102, s_X11_count_113, b_X11_count_113, s_X11_count_123, b_X11_count_123, s_X11_count_127, b_X11_count_127, s_X11_count_128, b_X11_count_128, s_X11_count_136, b_X11_count_136, s_X11_count_138, b_X11_count_138, g_X11_85, p_X11_85, g_X11_7, g_X11_13, g_X11_125, g_X11_218, g_X11_42, G_X11_count_134, sp_X11_isTile_e]
    exact hk
  | succ d ih =>
    intro i h1
    have e1 : ((i + 1 : Nat) : Int) = (i : Int) + 1 := by omega
    have e2 : m_tcn (μ 85 2) (μ 85 3) (i + 1) = m_tcn (μ 85 2) (μ 85 3) i + (if m_tl (μ 85 2) (μ 85 3) (i : Int) then 1 else 0) := rfl
    have ih := ih (i + 1) (by omega)
    rw [e1, e2] at ih
    refine hR 60 b_X11_count_65 65 _ _ _ o_X11_count_65 ?_
    simp only [v_opt_n, v_opt_s, v_nil, v_iconst, v_bipush, v_sipush, v_lconst0, v_lconst1, v_ldc, v_ldcw, v_ldc2, v_iload0, v_iload1, v_iload2, v_iload3, v_iload, v_lload0, v_lload1, v_lload2, v_lload3, v_lload, v_aload0, v_aload1, v_aload2, v_aload3, v_aload, v_istore0, v_istore1, v_istore2, v_istore3, v_istore, v_lstore0, v_lstore1, v_lstore2, v_lstore3, v_lstore, v_astore0, v_astore1, v_astore2, v_astore3, v_astore, v_iinc, v_iadd, v_isub, v_imul, v_iand, v_ior, v_ixor, v_ishl, v_ishr, v_iushr, v_ineg, v_idiv, v_irem, v_ladd, v_lsub, v_lmul, v_lcmp, v_i2l, v_l2i, v_i2c, v_dup, v_dup2, v_if_eq, v_if_ne, v_if_lt, v_if_ge, v_if_gt, v_if_le, v_ic_eq, v_ic_ne, v_ic_lt, v_ic_ge, v_ic_gt, v_ic_le, v_goto, v_tsw, v_lsw, v_ireturn, v_areturn, v_return, v_iaload, v_laload, v_baload, v_caload, v_aaload, v_iastore, v_lastore, v_bastore, v_castore, v_alen, v_invvi, v_invst, v_invsp, e_int, e_lng, e_ref, e_lg0, e_lg1, e_lg2, e_lg3, e_lg4, e_lg5, e_lg6, e_lg7, e_lg8, e_lg9, e_lg10, e_lg11, e_lg12, e_lg13, e_clrI, e_clrJ, e_clrP, e_clrN, e_s0, e_s1, e_s2, e_s3, e_s4, e_s5, e_s6, e_s7, e_s8, e_s9, e_s10, e_s11, e_s12, e_s13, e_t0, e_t1, e_t2, e_t3, e_t4, e_t5, e_t6, e_t7, e_t8, e_t9, e_t10, e_t11, e_t12, e_t13, e_fd, e_kk, e_k0, e_k1, e_k2, e_k3, e_k4, e_k5, e_k6, e_k7, e_k8, e_k9, e_sv0, e_sv1, e_sv2, e_sv3, e_svc, e_pf0, e_pf1, e_pf2, e_pf3, e_ar, e_aa, e_al, e_sw1, e_sw2, e_ct0, e_ct1, e_ct2, e_cat0, e_cat1, e_rk0, e_rk1, e_rk2, e_inv0, e_inv1, e_inv2, e_inv3, e_inv4, e_inv5, e_inv6, e_o0, e_o1, e_cl, e_cle, e_cg, e_cge, e_ce, e_cr1, e_cr2, e_r, e_R, e_up, Int.cast_ofNat_Int, u_app, false_and, and_false, e_b0, e_b1, e_bn, e_bl, e_bu, Int.reduceLE, Int.reduceLT, Int.reduceEq, Int.reduceNeg, Int.reduceAdd, Int.reduceSub, Int.reduceMul, Nat.reduceLeDiff, Nat.reduceLT, Nat.reduceAdd, Nat.reduceEqDiff, true_and, and_true, true_or, or_true, false_or, or_false, forall_const, not_true_eq_false, not_false_eq_true, true_implies, false_implies, implies_true, and_self, zero_ne_one, one_ne_zero, eq_self, reduceIte, s_X11_count_0, b_X11_count_0, s_X11_count_48, b_X11_count_48, s_X11_count_53, b_X11_count_53, s_X11_count_58, b_X11_count_58, s_X11_count_63, b_X11_count_63, s_X11_count_65, b_X11_count_65, s_X11_count_71, b_X11_count_71, s_X11_count_80, b_X11_count_80, s_X11_count_84, b_X11_count_84, s_X11_count_85, b_X11_count_85, s_X11_count_93, b_X11_count_93, s_X11_count_95, b_X11_count_95, s_X11_count_100, b_X11_count_100, s_X11_count_102, b_X11_count_102, s_X11_count_113, b_X11_count_113, s_X11_count_123, b_X11_count_123, s_X11_count_127, b_X11_count_127, s_X11_count_128, b_X11_count_128, s_X11_count_136, b_X11_count_136, s_X11_count_138, b_X11_count_138, g_X11_85, p_X11_85, g_X11_7, g_X11_13, g_X11_125, g_X11_218, g_X11_42, G_X11_count_134, sp_X11_isTile_e]
    refine ⟨by omega, fun c => by omega, fun c => ⟨by omega, fun c2 => ?_, fun c2 => ?_⟩⟩
    · rw [if_neg c2] at ih
      exact ih
    · rw [if_pos (Classical.not_not.mp c2)] at ih
      exact ih
set_option maxRecDepth 100000 in
theorem count_5 {Rt : Option QV → QM → Prop} {S : Nat → QL → List QV → QM → Prop} (hR : q_Rule cX11_count 4 u_X11_count fl_X11 ld_X11 G_X11_count q_T 0 s_X11_count Rt S) {μ : QM} {k : Int} (hn : 0 ≤ μ 85 7 ∧ μ 85 7 ≤ 10) (hf : ∀ j : Int, q_r (μ 94 j)) (hk : Rt (some (.inl (m_fcn (μ 94) (9 * μ 85 7).toNat))) μ) : ∀ (d i : Nat), i + d = (9 * μ 85 7).toNat → S 102 [some (.inr (.inr 85)), some (.inl k), some (.inl (m_fcn (μ 94) i)), some (.inl (i : Int))] [] μ := by
  intro d
  induction d with
  | zero =>
    intro i h1
    obtain rfl : i = (9 * μ 85 7).toNat := by omega
    refine hR 60 b_X11_count_102 102 _ _ _ o_X11_count_102 ?_
    simp only [v_opt_n, v_opt_s, v_nil, v_iconst, v_bipush, v_sipush, v_lconst0, v_lconst1, v_ldc, v_ldcw, v_ldc2, v_iload0, v_iload1, v_iload2, v_iload3, v_iload, v_lload0, v_lload1, v_lload2, v_lload3, v_lload, v_aload0, v_aload1, v_aload2, v_aload3, v_aload, v_istore0, v_istore1, v_istore2, v_istore3, v_istore, v_lstore0, v_lstore1, v_lstore2, v_lstore3, v_lstore, v_astore0, v_astore1, v_astore2, v_astore3, v_astore, v_iinc, v_iadd, v_isub, v_imul, v_iand, v_ior, v_ixor, v_ishl, v_ishr, v_iushr, v_ineg, v_idiv, v_irem, v_ladd, v_lsub, v_lmul, v_lcmp, v_i2l, v_l2i, v_i2c, v_dup, v_dup2, v_if_eq, v_if_ne, v_if_lt, v_if_ge, v_if_gt, v_if_le, v_ic_eq, v_ic_ne, v_ic_lt, v_ic_ge, v_ic_gt, v_ic_le, v_goto, v_tsw, v_lsw, v_ireturn, v_areturn, v_return, v_iaload, v_laload, v_baload, v_caload, v_aaload, v_iastore, v_lastore, v_bastore, v_castore, v_alen, v_invvi, v_invst, v_invsp, e_int, e_lng, e_ref, e_lg0, e_lg1, e_lg2, e_lg3, e_lg4, e_lg5, e_lg6, e_lg7, e_lg8, e_lg9, e_lg10, e_lg11, e_lg12, e_lg13, e_clrI, e_clrJ, e_clrP, e_clrN, e_s0, e_s1, e_s2, e_s3, e_s4, e_s5, e_s6, e_s7, e_s8, e_s9, e_s10, e_s11, e_s12, e_s13, e_t0, e_t1, e_t2, e_t3, e_t4, e_t5, e_t6, e_t7, e_t8, e_t9, e_t10, e_t11, e_t12, e_t13, e_fd, e_kk, e_k0, e_k1, e_k2, e_k3, e_k4, e_k5, e_k6, e_k7, e_k8, e_k9, e_sv0, e_sv1, e_sv2, e_sv3, e_svc, e_pf0, e_pf1, e_pf2, e_pf3, e_ar, e_aa, e_al, e_sw1, e_sw2, e_ct0, e_ct1, e_ct2, e_cat0, e_cat1, e_rk0, e_rk1, e_rk2, e_inv0, e_inv1, e_inv2, e_inv3, e_inv4, e_inv5, e_inv6, e_o0, e_o1, e_cl, e_cle, e_cg, e_cge, e_ce, e_cr1, e_cr2, e_r, e_R, e_up, Int.cast_ofNat_Int, u_app, false_and, and_false, e_b0, e_b1, e_bn, e_bl, e_bu, Int.reduceLE, Int.reduceLT, Int.reduceEq, Int.reduceNeg, Int.reduceAdd, Int.reduceSub, Int.reduceMul, Nat.reduceLeDiff, Nat.reduceLT, Nat.reduceAdd, Nat.reduceEqDiff, true_and, and_true, true_or, or_true, false_or, or_false, forall_const, not_true_eq_false, not_false_eq_true, true_implies, false_implies, implies_true, and_self, zero_ne_one, one_ne_zero, eq_self, reduceIte, s_X11_count_0, b_X11_count_0, s_X11_count_48, b_X11_count_48, s_X11_count_53, b_X11_count_53, s_X11_count_58, b_X11_count_58, s_X11_count_63, b_X11_count_63, s_X11_count_65, b_X11_count_65, s_X11_count_71, b_X11_count_71, s_X11_count_80, b_X11_count_80, s_X11_count_84, b_X11_count_84, s_X11_count_85, b_X11_count_85, s_X11_count_93, b_X11_count_93, s_X11_count_95, b_X11_count_95, s_X11_count_100, b_X11_count_100, s_X11_count_102, b_X11_count_102, s_X11_count_113, b_X11_count_113, s_X11_count_123, b_X11_count_123, s_X11_count_127, b_X11_count_127, s_X11_count_128, b_X11_count_128, s_X11_count_136, b_X11_count_136, s_X11_count_138, b_X11_count_138, g_X11_85, p_X11_85, g_X11_7, g_X11_13, g_X11_125, g_X11_218, g_X11_42, G_X11_count_134, sp_X11_isTile_e]
    exact ⟨by omega, fun _ => hk, fun c => by omega⟩
  | succ d ih =>
    intro i h1
    have e1 : ((i + 1 : Nat) : Int) = (i : Int) + 1 := by omega
    have e2 : m_fcn (μ 94) (i + 1) = m_fcn (μ 94) i + (if μ 94 (i : Int) = 0 then 0 else 1) := rfl
    have ih := ih (i + 1) (by omega)
    rw [e1, e2] at ih
    have hr := hf i
    refine hR 60 b_X11_count_102 102 _ _ _ o_X11_count_102 ?_
    simp only [v_opt_n, v_opt_s, v_nil, v_iconst, v_bipush, v_sipush, v_lconst0, v_lconst1, v_ldc, v_ldcw, v_ldc2, v_iload0, v_iload1, v_iload2, v_iload3, v_iload, v_lload0, v_lload1, v_lload2, v_lload3, v_lload, v_aload0, v_aload1, v_aload2, v_aload3, v_aload, v_istore0, v_istore1, v_istore2, v_istore3, v_istore, v_lstore0, v_lstore1, v_lstore2, v_lstore3, v_lstore, v_astore0, v_astore1, v_astore2, v_astore3, v_astore, v_iinc, v_iadd, v_isub, v_imul, v_iand, v_ior, v_ixor, v_ishl, v_ishr, v_iushr, v_ineg, v_idiv, v_irem, v_ladd, v_lsub, v_lmul, v_lcmp, v_i2l, v_l2i, v_i2c, v_dup, v_dup2, v_if_eq, v_if_ne, v_if_lt, v_if_ge, v_if_gt, v_if_le, v_ic_eq, v_ic_ne, v_ic_lt, v_ic_ge, v_ic_gt, v_ic_le, v_goto, v_tsw, v_lsw, v_ireturn, v_areturn, v_return, v_iaload, v_laload, v_baload, v_caload, v_aaload, v_iastore, v_lastore, v_bastore, v_castore, v_alen, v_invvi, v_invst, v_invsp, e_int, e_lng, e_ref, e_lg0, e_lg1, e_lg2, e_lg3, e_lg4, e_lg5, e_lg6, e_lg7, e_lg8, e_lg9, e_lg10, e_lg11, e_lg12, e_lg13, e_clrI, e_clrJ, e_clrP, e_clrN, e_s0, e_s1, e_s2, e_s3, e_s4, e_s5, e_s6, e_s7, e_s8, e_s9, e_s10, e_s11, e_s12, e_s13, e_t0, e_t1, e_t2, e_t3, e_t4, e_t5, e_t6, e_t7, e_t8, e_t9, e_t10, e_t11, e_t12, e_t13, e_fd, e_kk, e_k0, e_k1, e_k2, e_k3, e_k4, e_k5, e_k6, e_k7, e_k8, e_k9, e_sv0, e_sv1, e_sv2, e_sv3, e_svc, e_pf0, e_pf1, e_pf2, e_pf3, e_ar, e_aa, e_al, e_sw1, e_sw2, e_ct0, e_ct1, e_ct2, e_cat0, e_cat1, e_rk0, e_rk1, e_rk2, e_inv0, e_inv1, e_inv2, e_inv3, e_inv4, e_inv5, e_inv6, e_o0, e_o1, e_cl, e_cle, e_cg, e_cge, e_ce, e_cr1, e_cr2, e_r, e_R, e_up, Int.cast_ofNat_Int, u_app, false_and, and_false, e_b0, e_b1, e_bn, e_bl, e_bu, Int.reduceLE, Int.reduceLT, Int.reduceEq, Int.reduceNeg, Int.reduceAdd, Int.reduceSub, Int.reduceMul, Nat.reduceLeDiff, Nat.reduceLT, Nat.reduceAdd, Nat.reduceEqDiff, true_and, and_true, true_or, or_true, false_or, or_false, forall_const, not_true_eq_false, not_false_eq_true, true_implies, false_implies, implies_true, and_self, zero_ne_one, one_ne_zero, eq_self, reduceIte, s_X11_count_0, b_X11_count_0, s_X11_count_48, b_X11_count_48, s_X11_count_53, b_X11_count_53, s_X11_count_58, b_X11_count_58, s_X11_count_63, b_X11_count_63, s_X11_count_65, b_X11_count_65, s_X11_count_71, b_X11_count_71, s_X11_count_80, b_X11_count_80, s_X11_count_84, b_X11_count_84, s_X11_count_85, b_X11_count_85, s_X11_count_93, b_X11_count_93, s_X11_count_95, b_X11_count_95, s_X11_count_100, b_X11_count_100, s_X11_count_102, b_X11_count_102, s_X11_count_113, b_X11_count_113, s_X11_count_123, b_X11_count_123, s_X11_count_127, b_X11_count_127, s_X11_count_128, b_X11_count_128, s_X11_count_136, b_X11_count_136, s_X11_count_138, b_X11_count_138, g_X11_85, p_X11_85, g_X11_7, g_X11_13, g_X11_125, g_X11_218, g_X11_42, G_X11_count_134, sp_X11_isTile_e, T_94]
    refine ⟨by omega, fun c => by omega, fun c => ⟨by omega, by omega, by omega, fun c2 => ?_, fun c2 => ?_⟩⟩
    · rw [if_pos c2] at ih
      exact ih
    · rw [if_neg c2] at ih
      exact ih
set_option maxRecDepth 100000 in
set_option maxHeartbeats 4000000 in
theorem B_X11_count : q_Body cX11_count 4 u_X11_count fl_X11 ld_X11 G_X11_count q_T 0 s_X11_count sp_X11_count := by
  intro S Rt hR ra μ h
  obtain ⟨this, what, rfl, h⟩ := sp_X11_count_i h
  refine ⟨by simp [q_sl, q_ct], ?_⟩
  show S 0 [some (.inr (.inr this)), some (.inl what), none, none] [] μ
  obtain ⟨rfl, h1, h2, h3, h4, hk⟩ := h
  have e94 : q_up μ 85 0 0 94 = μ 94 := funext fun j => u_na (by decide)
  refine hR 80 [] 0 _ _ _ rfl ?_
  simp only [v_opt_n, v_opt_s, v_nil, v_iconst, v_bipush, v_sipush, v_lconst0, v_lconst1, v_ldc, v_ldcw, v_ldc2, v_iload0, v_iload1, v_iload2, v_iload3, v_iload, v_lload0, v_lload1, v_lload2, v_lload3, v_lload, v_aload0, v_aload1, v_aload2, v_aload3, v_aload, v_istore0, v_istore1, v_istore2, v_istore3, v_istore, v_lstore0, v_lstore1, v_lstore2, v_lstore3, v_lstore, v_astore0, v_astore1, v_astore2, v_astore3, v_astore, v_iinc, v_iadd, v_isub, v_imul, v_iand, v_ior, v_ixor, v_ishl, v_ishr, v_iushr, v_ineg, v_idiv, v_irem, v_ladd, v_lsub, v_lmul, v_lcmp, v_i2l, v_l2i, v_i2c, v_dup, v_dup2, v_if_eq, v_if_ne, v_if_lt, v_if_ge, v_if_gt, v_if_le, v_ic_eq, v_ic_ne, v_ic_lt, v_ic_ge, v_ic_gt, v_ic_le, v_goto, v_tsw, v_lsw, v_ireturn, v_areturn, v_return, v_iaload, v_laload, v_baload, v_caload, v_aaload, v_iastore, v_lastore, v_bastore, v_castore, v_alen, v_invvi, v_invst, v_invsp, e_int, e_lng, e_ref, e_lg0, e_lg1, e_lg2, e_lg3, e_lg4, e_lg5, e_lg6, e_lg7, e_lg8, e_lg9, e_lg10, e_lg11, e_lg12, e_lg13, e_clrI, e_clrJ, e_clrP, e_clrN, e_s0, e_s1, e_s2, e_s3, e_s4, e_s5, e_s6, e_s7, e_s8, e_s9, e_s10, e_s11, e_s12, e_s13, e_t0, e_t1, e_t2, e_t3, e_t4, e_t5, e_t6, e_t7, e_t8, e_t9, e_t10, e_t11, e_t12, e_t13, e_fd, e_kk, e_k0, e_k1, e_k2, e_k3, e_k4, e_k5, e_k6, e_k7, e_k8, e_k9, e_sv0, e_sv1, e_sv2, e_sv3, e_svc, e_pf0, e_pf1, e_pf2, e_pf3, e_ar, e_aa, e_al, e_sw1, e_sw2, e_ct0, e_ct1, e_ct2, e_cat0, e_cat1, e_rk0, e_rk1, e_rk2, e_inv0, e_inv1, e_inv2, e_inv3, e_inv4, e_inv5, e_inv6, e_o0, e_o1, e_cl, e_cle, e_cg, e_cge, e_ce, e_cr1, e_cr2, e_r, e_R, e_up, Int.cast_ofNat_Int, u_app, false_and, and_false, e_b0, e_b1, e_bn, e_bl, e_bu, Int.reduceLE, Int.reduceLT, Int.reduceEq, Int.reduceNeg, Int.reduceAdd, Int.reduceSub, Int.reduceMul, Nat.reduceLeDiff, Nat.reduceLT, Nat.reduceAdd, Nat.reduceEqDiff, true_and, and_true, true_or, or_true, false_or, or_false, forall_const, not_true_eq_false, not_false_eq_true, true_implies, false_implies, implies_true, and_self, zero_ne_one, one_ne_zero, eq_self, reduceIte, s_X11_count_0, b_X11_count_0, s_X11_count_48, b_X11_count_48, s_X11_count_53, b_X11_count_53, s_X11_count_58, b_X11_count_58, s_X11_count_63, b_X11_count_63, s_X11_count_65, b_X11_count_65, s_X11_count_71, b_X11_count_71, s_X11_count_80, b_X11_count_80, s_X11_count_84, b_X11_count_84, s_X11_count_85, b_X11_count_85, s_X11_count_93, b_X11_count_93, s_X11_count_95, b_X11_count_95, s_X11_count_100, b_X11_count_100, s_X11_count_102, b_X11_count_102, s_X11_count_113, b_X11_count_113, s_X11_count_123, b_X11_count_123, s_X11_count_127, b_X11_count_127, s_X11_count_128, b_X11_count_128, s_X11_count_136, b_X11_count_136, s_X11_count_138, b_X11_count_138, g_X11_85, p_X11_85, g_X11_7, g_X11_13, g_X11_125, g_X11_218, g_X11_42, G_X11_count_134, sp_X11_isTile_e]
  refine ⟨h1, fun c => ?_, fun c => ⟨fun c1 => ?_, fun c1 => ⟨fun c2 => ?_, fun c2 => ⟨fun c3 => ?_, fun c3 => ⟨fun c4 => ?_, fun c4 => ⟨fun c5 => ?_, fun c5 => ?_⟩⟩⟩⟩⟩⟩
  · rw [if_pos c] at hk; exact hk
  · rw [if_neg c, if_pos c1] at hk; exact hk
  · rw [if_neg c, if_neg c1, if_pos c2] at hk; exact hk
  · rw [if_neg c, if_neg c1, if_neg c2, if_pos c3] at hk
    exact count_3 hR (μ := q_up μ 85 0 0) h2 hk 9 0 (by omega)
  · rw [if_neg c, if_neg c1, if_neg c2, if_neg c3, if_pos c4] at hk; exact hk
  · rw [if_neg c, if_neg c1, if_neg c2, if_neg c3, if_neg c4, if_pos c5, ← e94] at hk
    exact count_5 hR (μ := q_up μ 85 0 0) h3 (fun j => by rw [e94]; exact h4 j) hk (9 * μ 85 7).toNat 0 (by show 0 + (9 * μ 85 7).toNat = (9 * μ 85 7).toNat; omega)
  · rw [if_neg c, if_neg c1, if_neg c2, if_neg c3, if_neg c4, if_neg c5] at hk; exact hk
set_option maxRecDepth 100000 in
theorem C_X11_count {l : Launch} {ad : Int → Nat} {D : va_G} {cy : Nat → ClassId} {Z : State → Prop} (hZ : q_Zg ad Z) : q_Ct l q_T q_N ad D cy Z yX11_count cX11_count 4 (some .int) rm_X11_count sp_X11_count := by
  obtain ⟨hf, hg, hld⟩ := q_chkS k_X11_count
  refine q_met (rk := 0) q_wokT (by decide) rfl hf hg hld rfl (q_skS L_X11_count o_X11_count) ?_ ?_ ?_ ?_ B_X11_count
  · intro i hi; exact absurd hi List.not_mem_nil
  · intro i hi
    have hi : i = 134 := by simpa [u_X11_count] using hi
    rcases hi with rfl
    · exact q_crV hZ.1 (C_X11_isTile hZ) rv_X11_isTile cm_X11_isTile (by decide +kernel) (by decide +kernel) (by decide +kernel) (by decide +kernel) (by decide +kernel) ⟨rfl, rfl⟩ (by decide)
  · intro i hi; exact absurd hi List.not_mem_nil
  · intro i hi; exact absurd hi List.not_mem_nil
theorem rv_X11_count : q_rcv q_T yX11_count.cls sp_X11_count := by
  intro ra μ K h
  obtain ⟨this, what, rfl, h⟩ := sp_X11_count_i h
  obtain rfl := h.1
  exact ⟨[.inl what], 85, 11, _, _, rfl, T_85, rfl, rfl⟩
theorem cm_X11_count : Cond.code yX11_count cX11_count 4 (some .int) ∈ q_tb := by decide +kernel

