/-! the class: tiles -/
def c_fa (f : Int → Int) : Nat → Int
  | 0 => 0
  | n + 1 => c_fa f n + c_bc (f n) 9
def sp_X9_freshInAll : QP := fun ra μ K => match ra with
  | [.inr (.inr this)] => this = 20 ∧ (∀ b : Int, 0 ≤ b → b < 10 → q_mk (μ 21 b)) ∧ K (some (.inl (c_fa (μ 21) 10))) μ
  | _ => False
theorem sp_X9_freshInAll_e (this : Int) (μ : QM) (K : Option QV → QM → Prop) : sp_X9_freshInAll [.inr (.inr this)] μ K = (this = 20 ∧ (∀ b : Int, 0 ≤ b → b < 10 → q_mk (μ 21 b)) ∧ K (some (.inl (c_fa (μ 21) 10))) μ) := propext Iff.rfl
theorem sp_X9_freshInAll_i {ra : List QV} {μ : QM} {K : Option QV → QM → Prop} (h : sp_X9_freshInAll ra μ K) : ∃ this : Int, ra = [.inr (.inr this)] ∧ (this = 20 ∧ (∀ b : Int, 0 ≤ b → b < 10 → q_mk (μ 21 b)) ∧ K (some (.inl (c_fa (μ 21) 10))) μ) := by
  unfold sp_X9_freshInAll at h
  split at h
  · exact ⟨_, rfl, h⟩
  · exact h.elim
def rm_X9_freshInAll : Room := { frames := 1, cells := 0, slots := 0, locals := 20 }
def G_X9_freshInAll : Nat → Nat × QP := fun i => match i with
  | 50 => (1, sp_J6_bitCount_0f7a4)
  | _ => (0, fun _ _ _ => False)
theorem G_X9_freshInAll_50 : G_X9_freshInAll 50 = (1, sp_J6_bitCount_0f7a4) := id rfl
theorem fa_4 {Rt : Option QV → QM → Prop} {S : Nat → QL → List QV → QM → Prop} (hR : q_Rule cX9_freshInAll 3 u_X9_freshInAll fl_X9 ld_X9 G_X9_freshInAll q_T 0 s_X9_freshInAll Rt S) {μ : QM} (hm : ∀ b : Int, 0 ≤ b → b < 10 → q_mk (μ 21 b)) (hk : Rt (some (.inl (c_fa (μ 21) 10))) μ) : ∀ (d n : Nat), n + d = 10 → S 4 [some (.inr (.inr 20)), some (.inl (c_fa (μ 21) n)), some (.inl n)] [] μ := by
  intro d
  induction d with
  | zero =>
    intro n h1
    obtain rfl : n = 10 := by omega
    refine hR 60 b_X9_freshInAll_4 4 _ _ _ o_X9_freshInAll_4 ?_
    simp only [v_opt_n, v_opt_s, v_nil, v_iconst, v_bipush, v_sipush, v_lconst0, v_lconst1, v_ldc, v_ldcw, v_ldc2, v_iload0, v_iload1, v_iload2, v_iload3, v_iload, v_lload0, v_lload1, v_lload2, v_lload3, v_lload, v_aload0, v_aload1, v_aload2, v_aload3, v_aload, v_istore0, v_istore1, v_istore2, v_istore3, v_istore, v_lstore0, v_lstore1, v_lstore2, v_lstore3, v_lstore, v_astore0, v_astore1, v_astore2, v_astore3, v_astore, v_iinc, v_iadd, v_isub, v_imul, v_iand, v_ior, v_ixor, v_ishl, v_ishr, v_iushr, v_ineg, v_idiv, v_irem, v_ladd, v_lsub, v_lmul, v_lcmp, v_i2l, v_l2i, v_i2c, v_dup, v_dup2, v_if_eq, v_if_ne, v_if_lt, v_if_ge, v_if_gt, v_if_le, v_ic_eq, v_ic_ne, v_ic_lt, v_ic_ge, v_ic_gt, v_ic_le, v_goto, v_tsw, v_lsw, v_ireturn, v_areturn, v_return, v_iaload, v_laload, v_baload, v_caload, v_aaload, v_iastore, v_lastore, v_bastore, v_castore, v_alen, v_invvi, v_invst, v_invsp, e_int, e_lng, e_ref, e_lg0, e_lg1, e_lg2, e_lg3, e_lg4, e_lg5, e_lg6, e_lg7, e_lg8, e_lg9, e_lg10, e_lg11, e_lg12, e_lg13, e_clrI, e_clrJ, e_clrP, e_clrN, e_s0, e_s1, e_s2, e_s3, e_s4, e_s5, e_s6, e_s7, e_s8, e_s9, e_s10, e_s11, e_s12, e_s13, e_t0, e_t1, e_t2, e_t3, e_t4, e_t5, e_t6, e_t7, e_t8, e_t9, e_t10, e_t11, e_t12, e_t13, e_fd, e_kk, e_k0, e_k1, e_k2, e_k3, e_k4, e_k5, e_k6, e_k7, e_k8, e_k9, e_sv0, e_sv1, e_sv2, e_sv3, e_svc, e_pf0, e_pf1, e_pf2, e_pf3, e_ar, e_aa, e_al, e_sw1, e_sw2, e_ct0, e_ct1, e_ct2, e_cat0, e_cat1, e_rk0, e_rk1, e_rk2, e_inv0, e_inv1, e_inv2, e_inv3, e_inv4, e_inv5, e_inv6, e_o0, e_o1, e_cl, e_cle, e_cg, e_cge, e_ce, e_cr1, e_cr2, e_r, e_R, e_up, Int.cast_ofNat_Int, u_app, false_and, and_false, e_b0, e_b1, e_bn, e_bl, e_bu, Int.reduceLE, Int.reduceLT, Int.reduceEq, Int.reduceNeg, Int.reduceAdd, Int.reduceSub, Int.reduceMul, Nat.reduceLeDiff, Nat.reduceLT, Nat.reduceAdd, Nat.reduceEqDiff, true_and, and_true, true_or, or_true, false_or, or_false, forall_const, not_true_eq_false, not_false_eq_true, true_implies, false_implies, implies_true, and_self, zero_ne_one, one_ne_zero, eq_self, reduceIte, s_X9_freshInAll_0, b_X9_freshInAll_0, s_X9_freshInAll_4, b_X9_freshInAll_4, s_X9_freshInAll_10, b_X9_freshInAll_10, s_X9_freshInAll_28, b_X9_freshInAll_28, g_X9_9, G_X9_freshInAll_50, sp_J6_bitCount_0f7a4_e, T_21]
    exact hk
  | succ d ih =>
    intro n h1
    have ih := ih (n + 1) (by omega)
    rw [show ((n + 1 : Nat) : Int) = (n : Int) + 1 by omega] at ih
    refine hR 60 b_X9_freshInAll_4 4 _ _ _ o_X9_freshInAll_4 ?_
    simp only [v_opt_n, v_opt_s, v_nil, v_iconst, v_bipush, v_sipush, v_lconst0, v_lconst1, v_ldc, v_ldcw, v_ldc2, v_iload0, v_iload1, v_iload2, v_iload3, v_iload, v_lload0, v_lload1, v_lload2, v_lload3, v_lload, v_aload0, v_aload1, v_aload2, v_aload3, v_aload, v_istore0, v_istore1, v_istore2, v_istore3, v_istore, v_lstore0, v_lstore1, v_lstore2, v_lstore3, v_lstore, v_astore0, v_astore1, v_astore2, v_astore3, v_astore, v_iinc, v_iadd, v_isub, v_imul, v_iand, v_ior, v_ixor, v_ishl, v_ishr, v_iushr, v_ineg, v_idiv, v_irem, v_ladd, v_lsub, v_lmul, v_lcmp, v_i2l, v_l2i, v_i2c, v_dup, v_dup2, v_if_eq, v_if_ne, v_if_lt, v_if_ge, v_if_gt, v_if_le, v_ic_eq, v_ic_ne, v_ic_lt, v_ic_ge, v_ic_gt, v_ic_le, v_goto, v_tsw, v_lsw, v_ireturn, v_areturn, v_return, v_iaload, v_laload, v_baload, v_caload, v_aaload, v_iastore, v_lastore, v_bastore, v_castore, v_alen, v_invvi, v_invst, v_invsp, e_int, e_lng, e_ref, e_lg0, e_lg1, e_lg2, e_lg3, e_lg4, e_lg5, e_lg6, e_lg7, e_lg8, e_lg9, e_lg10, e_lg11, e_lg12, e_lg13, e_clrI, e_clrJ, e_clrP, e_clrN, e_s0, e_s1, e_s2, e_s3, e_s4, e_s5, e_s6, e_s7, e_s8, e_s9, e_s10, e_s11, e_s12, e_s13, e_t0, e_t1, e_t2, e_t3, e_t4, e_t5, e_t6, e_t7, e_t8, e_t9, e_t10, e_t11, e_t12, e_t13, e_fd, e_kk, e_k0, e_k1, e_k2, e_k3, e_k4, e_k5, e_k6, e_k7, e_k8, e_k9, e_sv0, e_sv1, e_sv2, e_sv3, e_svc, e_pf0, e_pf1, e_pf2, e_pf3, e_ar, e_aa, e_al, e_sw1, e_sw2, e_ct0, e_ct1, e_ct2, e_cat0, e_cat1, e_rk0, e_rk1, e_rk2, e_inv0, e_inv1, e_inv2, e_inv3, e_inv4, e_inv5, e_inv6, e_o0, e_o1, e_cl, e_cle, e_cg, e_cge, e_ce, e_cr1, e_cr2, e_r, e_R, e_up, Int.cast_ofNat_Int, u_app, false_and, and_false, e_b0, e_b1, e_bn, e_bl, e_bu, Int.reduceLE, Int.reduceLT, Int.reduceEq, Int.reduceNeg, Int.reduceAdd, Int.reduceSub, Int.reduceMul, Nat.reduceLeDiff, Nat.reduceLT, Nat.reduceAdd, Nat.reduceEqDiff, true_and, and_true, true_or, or_true, false_or, or_false, forall_const, not_true_eq_false, not_false_eq_true, true_implies, false_implies, implies_true, and_self, zero_ne_one, one_ne_zero, eq_self, reduceIte, s_X9_freshInAll_0, b_X9_freshInAll_0, s_X9_freshInAll_4, b_X9_freshInAll_4, s_X9_freshInAll_10, b_X9_freshInAll_10, s_X9_freshInAll_28, b_X9_freshInAll_28, g_X9_9, G_X9_freshInAll_50, sp_J6_bitCount_0f7a4_e, T_21]
    exact ⟨by omega, fun c => by omega, fun c => ⟨by omega, by omega, hm n (by omega) (by omega), ih⟩⟩
set_option maxRecDepth 100000 in
set_option maxHeartbeats 4000000 in
theorem B_X9_freshInAll : q_Body cX9_freshInAll 3 u_X9_freshInAll fl_X9 ld_X9 G_X9_freshInAll q_T 0 s_X9_freshInAll sp_X9_freshInAll := by
  intro S Rt hR ra μ h
  obtain ⟨this, rfl, h⟩ := sp_X9_freshInAll_i h
  refine ⟨by simp [q_sl, q_ct], ?_⟩
  show S 0 [some (.inr (.inr this)), none, none] [] μ
  obtain ⟨rfl, hm, hk⟩ := h
  refine hR 40 [] 0 _ _ _ rfl ?_
  simp only [v_opt_n, v_opt_s, v_nil, v_iconst, v_bipush, v_sipush, v_lconst0, v_lconst1, v_ldc, v_ldcw, v_ldc2, v_iload0, v_iload1, v_iload2, v_iload3, v_iload, v_lload0, v_lload1, v_lload2, v_lload3, v_lload, v_aload0, v_aload1, v_aload2, v_aload3, v_aload, v_istore0, v_istore1, v_istore2, v_istore3, v_istore, v_lstore0, v_lstore1, v_lstore2, v_lstore3, v_lstore, v_astore0, v_astore1, v_astore2, v_astore3, v_astore, v_iinc, v_iadd, v_isub, v_imul, v_iand, v_ior, v_ixor, v_ishl, v_ishr, v_iushr, v_ineg, v_idiv, v_irem, v_ladd, v_lsub, v_lmul, v_lcmp, v_i2l, v_l2i, v_i2c, v_dup, v_dup2, v_if_eq, v_if_ne, v_if_lt, v_if_ge, v_if_gt, v_if_le, v_ic_eq, v_ic_ne, v_ic_lt, v_ic_ge, v_ic_gt, v_ic_le, v_goto, v_tsw, v_lsw, v_ireturn, v_areturn, v_return, v_iaload, v_laload, v_baload, v_caload, v_aaload, v_iastore, v_lastore, v_bastore, v_castore, v_alen, v_invvi, v_invst, v_invsp, e_int, e_lng, e_ref, e_lg0, e_lg1, e_lg2, e_lg3, e_lg4, e_lg5, e_lg6, e_lg7, e_lg8, e_lg9, e_lg10, e_lg11, e_lg12, e_lg13, e_clrI, e_clrJ, e_clrP, e_clrN, e_s0, e_s1, e_s2, e_s3, e_s4, e_s5, e_s6, e_s7, e_s8, e_s9, e_s10, e_s11, e_s12, e_s13, e_t0, e_t1, e_t2, e_t3, e_t4, e_t5, e_t6, e_t7, e_t8, e_t9, e_t10, e_t11, e_t12, e_t13, e_fd, e_kk, e_k0, e_k1, e_k2, e_k3, e_k4, e_k5, e_k6, e_k7, e_k8, e_k9, e_sv0, e_sv1, e_sv2, e_sv3, e_svc, e_pf0, e_pf1, e_pf2, e_pf3, e_ar, e_aa, e_al, e_sw1, e_sw2, e_ct0, e_ct1, e_ct2, e_cat0, e_cat1, e_rk0, e_rk1, e_rk2, e_inv0, e_inv1, e_inv2, e_inv3, e_inv4, e_inv5, e_inv6, e_o0, e_o1, e_cl, e_cle, e_cg, e_cge, e_ce, e_cr1, e_cr2, e_r, e_R, e_up, Int.cast_ofNat_Int, u_app, false_and, and_false, e_b0, e_b1, e_bn, e_bl, e_bu, Int.reduceLE, Int.reduceLT, Int.reduceEq, Int.reduceNeg, Int.reduceAdd, Int.reduceSub, Int.reduceMul, Nat.reduceLeDiff, Nat.reduceLT, Nat.reduceAdd, Nat.reduceEqDiff, true_and, and_true, true_or, or_true, false_or, or_false, forall_const, not_true_eq_false, not_false_eq_true, true_implies, false_implies, implies_true, and_self, zero_ne_one, one_ne_zero, eq_self, reduceIte, s_X9_freshInAll_0, b_X9_freshInAll_0, s_X9_freshInAll_4, b_X9_freshInAll_4, s_X9_freshInAll_10, b_X9_freshInAll_10, s_X9_freshInAll_28, b_X9_freshInAll_28, g_X9_9, G_X9_freshInAll_50, sp_J6_bitCount_0f7a4_e]
  exact fa_4 hR hm hk 10 0 rfl
set_option maxRecDepth 100000 in
theorem C_X9_freshInAll {l : Launch} {ad : Int → Nat} {D : va_G} {cy : Nat → ClassId} {Z : State → Prop} (hZ : q_Zg ad Z) : q_Ct l q_T q_N ad D cy Z yX9_freshInAll cX9_freshInAll 3 (some .int) rm_X9_freshInAll sp_X9_freshInAll := by
  obtain ⟨hf, hg, hld⟩ := q_chkS k_X9_freshInAll
  refine q_met (rk := 0) q_wokT (by decide) rfl hf hg hld rfl (q_skS L_X9_freshInAll o_X9_freshInAll) ?_ ?_ ?_ ?_ B_X9_freshInAll
  · intro i hi; exact absurd hi List.not_mem_nil
  · intro i hi; exact absurd hi List.not_mem_nil
  · intro i hi
    have hi : i = 50 := by simpa [u_X9_freshInAll] using hi
    rcases hi with rfl
    · exact q_crS hZ.1 (C_J6_bitCount_0f7a4 hZ) cm_J6_bitCount_0f7a4 (by decide +kernel) (by decide +kernel) (by decide +kernel) (by decide +kernel) ⟨rfl, rfl⟩ (by decide)
  · intro i hi; exact absurd hi List.not_mem_nil
theorem rv_X9_freshInAll : q_rcv q_T yX9_freshInAll.cls sp_X9_freshInAll := by
  intro ra μ K h
  obtain ⟨this, rfl, h⟩ := sp_X9_freshInAll_i h
  obtain rfl := h.1
  exact ⟨[], 20, 9, _, _, rfl, T_20, rfl, rfl⟩
theorem cm_X9_freshInAll : Cond.code yX9_freshInAll cX9_freshInAll 3 (some .int) ∈ q_tb := by decide +kernel
theorem c_mr_cg {μ ν : QM} {r B w h : Int} (hr : q_rc r) (hB : 0 ≤ B ∧ B < 10) (f : ∀ c j : Int, ¬ c = 35 → ¬ c = 37 → ¬ c = 38 → ¬ c = 24 + B → ν c j = μ c j) (hm : c_mr μ r B w h) : c_mr ν r B w h := by
  obtain ⟨m1, m2, m3, m4, m5, m6, m7⟩ := hm
  have er : ∀ j : Int, ν r j = μ r j := fun j => f r j (by omega) (by omega) (by omega) (by omega)
  have en : ∀ j : Int, ν (r + 10) j = μ (r + 10) j := fun j => f _ j (by omega) (by omega) (by omega) (by omega)
  unfold c_mr
  rw [er 2, er 3, er 4]
  refine ⟨m1, m2, m3, m4, fun k k0 k1 => by rw [en]; exact m5 k k0 k1, fun k k0 k1 => by rw [en]; exact m6 k k0 k1, fun k u v k0 k1 huv => ?_⟩
  have hmn := m_mn_b (μ r 2)
  have a1 := m5 k k0 (by omega)
  have a2 := m6 k k0 k1
  show m_vr (ν _ _)
  rw [en, f _ _ (by omega) (by omega) (by omega) (by omega)]
  exact m7 k u v k0 k1 huv
theorem c_F_cg {μ ν : QM} {r B w h x y : Int} (hr : q_rc r) (hB : 0 ≤ B ∧ B < 10) (hd : m_dim w h) (hxy : m_in w h x y) (f : ∀ c j : Int, ¬ c = 35 → ¬ c = 37 → ¬ c = 38 → ¬ c = 24 + B → ν c j = μ c j) (hm : c_mr μ r B w h) (h7 : ¬ μ r 2 = 7 ∧ ¬ μ r 2 = 11 ∧ ¬ μ r 2 = 12) : c_F ν r w h x y = c_F μ r w h x y := by
  obtain ⟨m1, m2, m3, m4, m5, m6, m7⟩ := hm
  have er : ∀ j : Int, ν r j = μ r j := fun j => f r j (by omega) (by omega) (by omega) (by omega)
  have en : ∀ j : Int, ν (r + 10) j = μ (r + 10) j := fun j => f _ j (by omega) (by omega) (by omega) (by omega)
  have ev : ∀ k j : Int, 0 ≤ k → k < 3 → k < m_mn (μ r 2) → ν (24 + μ (r + 10) k) j = μ (24 + μ (r + 10) k) j := fun k j k0 k3 k1 => by
    have a1 := m5 k k0 k3
    have a2 := m6 k k0 k1
    exact f _ j (by omega) (by omega) (by omega) (by omega)
  unfold c_F
  rw [er 2, er 3, er 4, en 0, en 1, en 2]
  unfold m_F
  by_cases k0 : μ r 2 = 0
  · obtain ⟨q1, q2⟩ := m2 k0
    rw [if_pos k0, if_pos k0]
    exact f _ _ (by omega) (by omega) (by omega) (by omega)
  have e0 : c_A ν (24 + μ (r + 10) 0) = c_A μ (24 + μ (r + 10) 0) := by
    funext u v
    exact ev 0 _ (by omega) (by omega) (mn_1 k0)
  rw [if_neg k0, if_neg k0, e0]
  by_cases k8 : μ r 2 = 8
  · have e1 := ev 1 (c_p x y) (by omega) (by omega) (mn_2 k0 (by omega) (by omega) (by omega))
    have e2 := ev 2 (c_p x y) (by omega) (by omega) (mn_3 k8)
    rw [if_pos k8, if_pos k8]
    show (if _ then _ else if _ then ν _ (c_p x y) else ν _ (c_p x y)) = _
    rw [e1, e2]
  rw [if_neg k8, if_neg k8]
  by_cases k9 : μ r 2 = 9
  · rw [if_pos k9, if_pos k9]
  rw [if_neg k9, if_neg k9]
  by_cases k10 : μ r 2 = 10
  · rw [if_pos k10, if_pos k10]
  have e1 := ev 1 (c_p x y) (by omega) (by omega) (mn_2 k0 k9 k10 h7.2.2)
  rw [if_neg k10, if_neg k10, if_neg h7.2.1, if_neg h7.2.1]
  show q_cellOf _ _ (ν _ (c_p x y)) = _
  rw [e1]

