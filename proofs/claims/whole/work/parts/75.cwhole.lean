/-! the class: whole boards -/
noncomputable abbrev c_V (μ : QM) (r w h : Int) : Int → Int → Int := m_val w h (μ r 2) (μ r 3) (μ r 4) (fun x y => c_A μ (4 + μ r 4) x y) (c_A μ (24 + μ (r + 10) 0)) (c_A μ (24 + μ (r + 10) 1)) (c_A μ (24 + μ (r + 10) 2))
def sp_X1_makeWhole : QP := fun ra μ K => match ra with
  | [.inr (.inr out), .inr (.inr recipe), .inr (.inr this)] => this = 34 ∧ q_rc recipe ∧ c_sd μ ∧ ∃ w h B : Int, m_dim w h ∧ out = 24 + B ∧ (0 ≤ B ∧ B < 10) ∧ c_mr μ recipe B w h ∧ (μ recipe 2 = 7 ∨ μ recipe 2 = 11 ∨ μ recipe 2 = 12) ∧ (∀ i : Int, 0 ≤ i → i < 10 → c_gp μ (24 + i) w h) ∧ ∀ ν : QM, (∀ c j : Int, ¬ c = 35 → ¬ c = 37 → ¬ c = 38 → ¬ c = 24 + B → ν c j = μ c j) → c_gp ν (24 + B) w h → (∀ x y : Int, m_in w h x y → ν (24 + B) (c_p x y) = c_V μ recipe w h x y) → K none ν
  | _ => False
theorem sp_X1_makeWhole_e (this recipe out : Int) (μ : QM) (K : Option QV → QM → Prop) : sp_X1_makeWhole [.inr (.inr out), .inr (.inr recipe), .inr (.inr this)] μ K = (this = 34 ∧ q_rc recipe ∧ c_sd μ ∧ ∃ w h B : Int, m_dim w h ∧ out = 24 + B ∧ (0 ≤ B ∧ B < 10) ∧ c_mr μ recipe B w h ∧ (μ recipe 2 = 7 ∨ μ recipe 2 = 11 ∨ μ recipe 2 = 12) ∧ (∀ i : Int, 0 ≤ i → i < 10 → c_gp μ (24 + i) w h) ∧ ∀ ν : QM, (∀ c j : Int, ¬ c = 35 → ¬ c = 37 → ¬ c = 38 → ¬ c = 24 + B → ν c j = μ c j) → c_gp ν (24 + B) w h → (∀ x y : Int, m_in w h x y → ν (24 + B) (c_p x y) = c_V μ recipe w h x y) → K none ν) := propext Iff.rfl
theorem sp_X1_makeWhole_i {ra : List QV} {μ : QM} {K : Option QV → QM → Prop} (h : sp_X1_makeWhole ra μ K) : ∃ this recipe out : Int, ra = [.inr (.inr out), .inr (.inr recipe), .inr (.inr this)] ∧ (this = 34 ∧ q_rc recipe ∧ c_sd μ ∧ ∃ w h B : Int, m_dim w h ∧ out = 24 + B ∧ (0 ≤ B ∧ B < 10) ∧ c_mr μ recipe B w h ∧ (μ recipe 2 = 7 ∨ μ recipe 2 = 11 ∨ μ recipe 2 = 12) ∧ (∀ i : Int, 0 ≤ i → i < 10 → c_gp μ (24 + i) w h) ∧ ∀ ν : QM, (∀ c j : Int, ¬ c = 35 → ¬ c = 37 → ¬ c = 38 → ¬ c = 24 + B → ν c j = μ c j) → c_gp ν (24 + B) w h → (∀ x y : Int, m_in w h x y → ν (24 + B) (c_p x y) = c_V μ recipe w h x y) → K none ν) := by
  unfold sp_X1_makeWhole at h
  split at h
  · exact ⟨_, _, _, rfl, h⟩
  · exact h.elim
def rm_X1_makeWhole : Room := { frames := 3, cells := 0, slots := 0, locals := 75 }
def G_X1_makeWhole : Nat → Nat × QP := fun i => match i with
  | 80 => (5, sp_X1_zones)
  | 84 => (4, sp_X1_ways)
  | 88 => (3, sp_X1_flows)
  | _ => (0, fun _ _ _ => False)
theorem G_X1_makeWhole_80 : G_X1_makeWhole 80 = (5, sp_X1_zones) := id rfl
theorem G_X1_makeWhole_84 : G_X1_makeWhole 84 = (4, sp_X1_ways) := id rfl
theorem G_X1_makeWhole_88 : G_X1_makeWhole 88 = (3, sp_X1_flows) := id rfl
set_option maxRecDepth 100000 in
set_option maxRecDepth 100000 in
set_option maxHeartbeats 4000000 in
theorem B_X1_makeWhole : q_Body cX1_makeWhole 5 u_X1_makeWhole fl_X1 ld_X1 G_X1_makeWhole q_T 4 s_X1_makeWhole sp_X1_makeWhole := by
  intro S Rt hR ra μ h
  obtain ⟨this, recipe, out, rfl, h⟩ := sp_X1_makeWhole_i h
  refine ⟨by simp [q_sl, q_ct], ?_⟩
  show S 0 [some (.inr (.inr this)), some (.inr (.inr recipe)), some (.inr (.inr out)), none, none] [] μ
  obtain ⟨rfl, hr, hs, w, h9, B, hd, rfl, hB, hm, hkd, hg, hk⟩ := h
  obtain ⟨m1, m2, m3, m4, m5, m6, m7⟩ := hm
  have hT := T_rec hr
  have hT2 := T_nmd hr
  have h0 : 0 ≤ recipe := by omega
  have o0 := m5 0 (by omega) (by omega)
  have o1 := m5 1 (by omega) (by omega)
  have n0 := m6 0 (by omega) (mn_1 (by omega))
  have all : ∀ k : Int, 0 ≤ k → k < 3 → k < m_mn (μ recipe 2) → ∀ p : Int, 15 ≤ p → p ≤ 180 → m_vr (μ (24 + μ (recipe + 10) k) p) := fun k k0 k3 k1 p p0 p1 => by
    obtain ⟨u, v, u0, u1, v0, v1, rfl⟩ := c_p_ex (p := p) (by omega)
    have ok := m5 k k0 k3
    by_cases c : m_in w h9 u v
    · exact m7 k u v k0 k1 c
    · exact Or.inl (hg _ ok.1 ok.2 u v u0 u1 v0 v1 c)
  rcases hkd with k7 | k11 | k12
  · have n1 := m6 1 (by omega) (mn_2 (by omega) (by omega) (by omega) (by omega))
    refine hR 60 [] 0 _ _ _ rfl ?_
    simp only [v_opt_n, v_opt_s, v_nil, v_iconst, v_bipush, v_sipush, v_lconst0, v_lconst1, v_ldc, v_ldcw, v_ldc2, v_iload0, v_iload1, v_iload2, v_iload3, v_iload, v_lload0, v_lload1, v_lload2, v_lload3, v_lload, v_aload0, v_aload1, v_aload2, v_aload3, v_aload, v_istore0, v_istore1, v_istore2, v_istore3, v_istore, v_lstore0, v_lstore1, v_lstore2, v_lstore3, v_lstore, v_astore0, v_astore1, v_astore2, v_astore3, v_astore, v_iinc, v_iadd, v_isub, v_imul, v_iand, v_ior, v_ixor, v_ishl, v_ishr, v_iushr, v_ineg, v_idiv, v_irem, v_ladd, v_lsub, v_lmul, v_lcmp, v_i2l, v_l2i, v_i2c, v_dup, v_dup2, v_if_eq, v_if_ne, v_if_lt, v_if_ge, v_if_gt, v_if_le, v_ic_eq, v_ic_ne, v_ic_lt, v_ic_ge, v_ic_gt, v_ic_le, v_goto, v_tsw, v_lsw, v_ireturn, v_areturn, v_return, v_iaload, v_laload, v_baload, v_caload, v_aaload, v_iastore, v_lastore, v_bastore, v_castore, v_alen, v_invvi, v_invst, v_invsp, e_int, e_lng, e_ref, e_lg0, e_lg1, e_lg2, e_lg3, e_lg4, e_lg5, e_lg6, e_lg7, e_lg8, e_lg9, e_lg10, e_lg11, e_lg12, e_lg13, e_clrI, e_clrJ, e_clrP, e_clrN, e_s0, e_s1, e_s2, e_s3, e_s4, e_s5, e_s6, e_s7, e_s8, e_s9, e_s10, e_s11, e_s12, e_s13, e_t0, e_t1, e_t2, e_t3, e_t4, e_t5, e_t6, e_t7, e_t8, e_t9, e_t10, e_t11, e_t12, e_t13, e_fd, e_kk, e_k0, e_k1, e_k2, e_k3, e_k4, e_k5, e_k6, e_k7, e_k8, e_k9, e_sv0, e_sv1, e_sv2, e_sv3, e_svc, e_pf0, e_pf1, e_pf2, e_pf3, e_ar, e_aa, e_al, e_sw1, e_sw2, e_ct0, e_ct1, e_ct2, e_cat0, e_cat1, e_rk0, e_rk1, e_rk2, e_inv0, e_inv1, e_inv2, e_inv3, e_inv4, e_inv5, e_inv6, e_o0, e_o1, e_cl, e_cle, e_cg, e_cge, e_ce, e_cr1, e_cr2, e_r, e_R, e_up, Int.cast_ofNat_Int, u_app, false_and, and_false, e_b0, e_b1, e_bn, e_bl, e_bu, Int.reduceLE, Int.reduceLT, Int.reduceEq, Int.reduceNeg, Int.reduceAdd, Int.reduceSub, Int.reduceMul, Nat.reduceLeDiff, Nat.reduceLT, Nat.reduceAdd, Nat.reduceEqDiff, true_and, and_true, true_or, or_true, false_or, or_false, forall_const, not_true_eq_false, not_false_eq_true, true_implies, false_implies, implies_true, and_self, zero_ne_one, one_ne_zero, eq_self, reduceIte, v_getf, v_putf, s_X1_makeWhole_0, b_X1_makeWhole_0, s_X1_makeWhole_56, b_X1_makeWhole_56, s_X1_makeWhole_71, b_X1_makeWhole_71, s_X1_makeWhole_82, b_X1_makeWhole_82, s_X1_makeWhole_88, b_X1_makeWhole_88, fl_X1_37, T_34, fl_X1_74, fl_X1_60, fl_X1_77, G_X1_makeWhole_80, sp_X1_zones_e, G_X1_makeWhole_84, sp_X1_ways_e, G_X1_makeWhole_88, sp_X1_flows_e, hT, hT2, T_23, k7]
    refine ⟨h0, o0.1, o0.2, by omega, by omega, h0, o1.1, o1.2, by omega, by omega, h0, by omega, by omega, by omega, by omega, by omega, by omega, by omega, by omega, hs, w, h9, hd, hg _ o1.1 o1.2, hg B hB.1 hB.2, fun u v huv => ⟨m7 0 u v (by omega) (mn_1 (by omega)) huv, m7 1 u v (by omega) (mn_2 (by omega) (by omega) (by omega) (by omega)) huv⟩, fun ν f g1 g2 => hk ν (fun c j _ _ _ nc => f c j nc) g1 (fun x y hxy => ?_)⟩
    rw [g2 x y hxy]
    unfold c_V m_val
    rw [if_pos k7]
  · have n1 := m6 1 (by omega) (mn_2 (by omega) (by omega) (by omega) (by omega))
    refine hR 60 [] 0 _ _ _ rfl ?_
    simp only [v_opt_n, v_opt_s, v_nil, v_iconst, v_bipush, v_sipush, v_lconst0, v_lconst1, v_ldc, v_ldcw, v_ldc2, v_iload0, v_iload1, v_iload2, v_iload3, v_iload, v_lload0, v_lload1, v_lload2, v_lload3, v_lload, v_aload0, v_aload1, v_aload2, v_aload3, v_aload, v_istore0, v_istore1, v_istore2, v_istore3, v_istore, v_lstore0, v_lstore1, v_lstore2, v_lstore3, v_lstore, v_astore0, v_astore1, v_astore2, v_astore3, v_astore, v_iinc, v_iadd, v_isub, v_imul, v_iand, v_ior, v_ixor, v_ishl, v_ishr, v_iushr, v_ineg, v_idiv, v_irem, v_ladd, v_lsub, v_lmul, v_lcmp, v_i2l, v_l2i, v_i2c, v_dup, v_dup2, v_if_eq, v_if_ne, v_if_lt, v_if_ge, v_if_gt, v_if_le, v_ic_eq, v_ic_ne, v_ic_lt, v_ic_ge, v_ic_gt, v_ic_le, v_goto, v_tsw, v_lsw, v_ireturn, v_areturn, v_return, v_iaload, v_laload, v_baload, v_caload, v_aaload, v_iastore, v_lastore, v_bastore, v_castore, v_alen, v_invvi, v_invst, v_invsp, e_int, e_lng, e_ref, e_lg0, e_lg1, e_lg2, e_lg3, e_lg4, e_lg5, e_lg6, e_lg7, e_lg8, e_lg9, e_lg10, e_lg11, e_lg12, e_lg13, e_clrI, e_clrJ, e_clrP, e_clrN, e_s0, e_s1, e_s2, e_s3, e_s4, e_s5, e_s6, e_s7, e_s8, e_s9, e_s10, e_s11, e_s12, e_s13, e_t0, e_t1, e_t2, e_t3, e_t4, e_t5, e_t6, e_t7, e_t8, e_t9, e_t10, e_t11, e_t12, e_t13, e_fd, e_kk, e_k0, e_k1, e_k2, e_k3, e_k4, e_k5, e_k6, e_k7, e_k8, e_k9, e_sv0, e_sv1, e_sv2, e_sv3, e_svc, e_pf0, e_pf1, e_pf2, e_pf3, e_ar, e_aa, e_al, e_sw1, e_sw2, e_ct0, e_ct1, e_ct2, e_cat0, e_cat1, e_rk0, e_rk1, e_rk2, e_inv0, e_inv1, e_inv2, e_inv3, e_inv4, e_inv5, e_inv6, e_o0, e_o1, e_cl, e_cle, e_cg, e_cge, e_ce, e_cr1, e_cr2, e_r, e_R, e_up, Int.cast_ofNat_Int, u_app, false_and, and_false, e_b0, e_b1, e_bn, e_bl, e_bu, Int.reduceLE, Int.reduceLT, Int.reduceEq, Int.reduceNeg, Int.reduceAdd, Int.reduceSub, Int.reduceMul, Nat.reduceLeDiff, Nat.reduceLT, Nat.reduceAdd, Nat.reduceEqDiff, true_and, and_true, true_or, or_true, false_or, or_false, forall_const, not_true_eq_false, not_false_eq_true, true_implies, false_implies, implies_true, and_self, zero_ne_one, one_ne_zero, eq_self, reduceIte, v_getf, v_putf, s_X1_makeWhole_0, b_X1_makeWhole_0, s_X1_makeWhole_56, b_X1_makeWhole_56, s_X1_makeWhole_71, b_X1_makeWhole_71, s_X1_makeWhole_82, b_X1_makeWhole_82, s_X1_makeWhole_88, b_X1_makeWhole_88, fl_X1_37, T_34, fl_X1_74, fl_X1_60, fl_X1_77, G_X1_makeWhole_80, sp_X1_zones_e, G_X1_makeWhole_84, sp_X1_ways_e, G_X1_makeWhole_88, sp_X1_flows_e, hT, hT2, T_23, k11]
    refine ⟨h0, o0.1, o0.2, by omega, by omega, h0, o1.1, o1.2, by omega, by omega, h0, h0, by omega, by omega, by omega, m4 (Or.inr k11), by omega, by omega, by omega, by omega, by omega, fun p p0 p1 => ⟨all 0 (by omega) (by omega) (mn_1 (by omega)) p p0 p1, all 1 (by omega) (by omega) (mn_2 (by omega) (by omega) (by omega) (by omega)) p p0 p1⟩, fun ν f g1 => hk ν (fun c j n1 _ n3 n4 => f c j n1 n3 n4) (fun u v u0 u1 v0 v1 hn => ?_) (fun x y hxy => ?_)⟩
    · rw [g1]
      by_cases c : 15 ≤ c_p u v ∧ c_p u v ≤ 180
      · rw [if_pos c, if_pos (hg _ o1.1 o1.2 u v u0 u1 v0 v1 hn)]
      · rw [if_neg c]
        exact hg B hB.1 hB.2 u v u0 u1 v0 v1 hn
    · have eV : c_V μ recipe w h9 x y = m_zone w h9 (μ recipe 3) (c_A μ (24 + μ (recipe + 10) 0)) (c_A μ (24 + μ (recipe + 10) 1)) x y := by
        unfold c_V m_val m_F
        rw [if_neg (by omega), if_neg (by omega), if_neg (by omega), if_neg (by omega), if_neg (by omega), if_neg (by omega), if_pos k11]
      rw [g1, if_pos (show 15 ≤ (y + 1) * 14 + x + 1 ∧ (y + 1) * 14 + x + 1 ≤ 180 by omega), eV]
      by_cases c : c_A μ (24 + μ (recipe + 10) 1) x y = -2000000000
      · rw [if_pos c]
        unfold m_zone
        rw [if_pos c]
      · rw [if_neg c]
        exact c_Z_e hd (hg _ o1.1 o1.2) c
  · refine hR 60 [] 0 _ _ _ rfl ?_
    simp only [v_opt_n, v_opt_s, v_nil, v_iconst, v_bipush, v_sipush, v_lconst0, v_lconst1, v_ldc, v_ldcw, v_ldc2, v_iload0, v_iload1, v_iload2, v_iload3, v_iload, v_lload0, v_lload1, v_lload2, v_lload3, v_lload, v_aload0, v_aload1, v_aload2, v_aload3, v_aload, v_istore0, v_istore1, v_istore2, v_istore3, v_istore, v_lstore0, v_lstore1, v_lstore2, v_lstore3, v_lstore, v_astore0, v_astore1, v_astore2, v_astore3, v_astore, v_iinc, v_iadd, v_isub, v_imul, v_iand, v_ior, v_ixor, v_ishl, v_ishr, v_iushr, v_ineg, v_idiv, v_irem, v_ladd, v_lsub, v_lmul, v_lcmp, v_i2l, v_l2i, v_i2c, v_dup, v_dup2, v_if_eq, v_if_ne, v_if_lt, v_if_ge, v_if_gt, v_if_le, v_ic_eq, v_ic_ne, v_ic_lt, v_ic_ge, v_ic_gt, v_ic_le, v_goto, v_tsw, v_lsw, v_ireturn, v_areturn, v_return, v_iaload, v_laload, v_baload, v_caload, v_aaload, v_iastore, v_lastore, v_bastore, v_castore, v_alen, v_invvi, v_invst, v_invsp, e_int, e_lng, e_ref, e_lg0, e_lg1, e_lg2, e_lg3, e_lg4, e_lg5, e_lg6, e_lg7, e_lg8, e_lg9, e_lg10, e_lg11, e_lg12, e_lg13, e_clrI, e_clrJ, e_clrP, e_clrN, e_s0, e_s1, e_s2, e_s3, e_s4, e_s5, e_s6, e_s7, e_s8, e_s9, e_s10, e_s11, e_s12, e_s13, e_t0, e_t1, e_t2, e_t3, e_t4, e_t5, e_t6, e_t7, e_t8, e_t9, e_t10, e_t11, e_t12, e_t13, e_fd, e_kk, e_k0, e_k1, e_k2, e_k3, e_k4, e_k5, e_k6, e_k7, e_k8, e_k9, e_sv0, e_sv1, e_sv2, e_sv3, e_svc, e_pf0, e_pf1, e_pf2, e_pf3, e_ar, e_aa, e_al, e_sw1, e_sw2, e_ct0, e_ct1, e_ct2, e_cat0, e_cat1, e_rk0, e_rk1, e_rk2, e_inv0, e_inv1, e_inv2, e_inv3, e_inv4, e_inv5, e_inv6, e_o0, e_o1, e_cl, e_cle, e_cg, e_cge, e_ce, e_cr1, e_cr2, e_r, e_R, e_up, Int.cast_ofNat_Int, u_app, false_and, and_false, e_b0, e_b1, e_bn, e_bl, e_bu, Int.reduceLE, Int.reduceLT, Int.reduceEq, Int.reduceNeg, Int.reduceAdd, Int.reduceSub, Int.reduceMul, Nat.reduceLeDiff, Nat.reduceLT, Nat.reduceAdd, Nat.reduceEqDiff, true_and, and_true, true_or, or_true, false_or, or_false, forall_const, not_true_eq_false, not_false_eq_true, true_implies, false_implies, implies_true, and_self, zero_ne_one, one_ne_zero, eq_self, reduceIte, v_getf, v_putf, s_X1_makeWhole_0, b_X1_makeWhole_0, s_X1_makeWhole_56, b_X1_makeWhole_56, s_X1_makeWhole_71, b_X1_makeWhole_71, s_X1_makeWhole_82, b_X1_makeWhole_82, s_X1_makeWhole_88, b_X1_makeWhole_88, fl_X1_37, T_34, fl_X1_74, fl_X1_60, fl_X1_77, G_X1_makeWhole_80, sp_X1_zones_e, G_X1_makeWhole_84, sp_X1_ways_e, G_X1_makeWhole_88, sp_X1_flows_e, hT, hT2, T_23, k12]
    refine ⟨h0, o0.1, o0.2, by omega, by omega, h0, o1.1, o1.2, by omega, by omega, h0, by omega, by omega, by omega, by omega, by omega, hs, w, h9, hd, hg _ o0.1 o0.2, fun u v huv => m7 0 u v (by omega) (mn_1 (by omega)) huv, fun ν f g1 g2 g3 => hk ν (fun c j _ n2 _ n4 => f c j n2 n4) (fun u v u0 u1 v0 v1 hn => ?_) (fun x y hxy => ?_)⟩
    · rcases g2 u v u0 u1 v0 v1 hn with q | q
      · exact q
      · rw [q]
        exact hg B hB.1 hB.2 u v u0 u1 v0 v1 hn
    · rw [g1 x y hxy]
      unfold c_V m_val
      rw [if_neg (by omega), if_pos k12]
set_option maxRecDepth 100000 in
theorem C_X1_makeWhole {l : Launch} {ad : Int → Nat} {D : va_G} {cy : Nat → ClassId} {Z : State → Prop} (hZ : q_Zg ad Z) : q_Ct l q_T q_N ad D cy Z yX1_makeWhole cX1_makeWhole 5 none rm_X1_makeWhole sp_X1_makeWhole := by
  obtain ⟨hf, hg, hld⟩ := q_chkS k_X1_makeWhole
  refine q_met (rk := 4) q_wokT (by decide) rfl hf hg hld rfl (q_skS L_X1_makeWhole o_X1_makeWhole) ?_ ?_ ?_ ?_ B_X1_makeWhole
  · intro i hi; exact absurd hi List.not_mem_nil
  · intro i hi
    have hi : i = 80 ∨ i = 84 ∨ i = 88 := by simpa [u_X1_makeWhole] using hi
    rcases hi with rfl | rfl | rfl
    · exact q_crV hZ.1 (C_X1_zones hZ) rv_X1_zones cm_X1_zones (by decide +kernel) (by decide +kernel) (by decide +kernel) (by decide +kernel) (by decide +kernel) ⟨rfl, rfl⟩ (by decide)
    · exact q_crV hZ.1 (C_X1_ways hZ) rv_X1_ways cm_X1_ways (by decide +kernel) (by decide +kernel) (by decide +kernel) (by decide +kernel) (by decide +kernel) ⟨rfl, rfl⟩ (by decide)
    · exact q_crV hZ.1 (C_X1_flows hZ) rv_X1_flows cm_X1_flows (by decide +kernel) (by decide +kernel) (by decide +kernel) (by decide +kernel) (by decide +kernel) ⟨rfl, rfl⟩ (by decide)
  · intro i hi; exact absurd hi List.not_mem_nil
  · intro i hi; exact absurd hi List.not_mem_nil
theorem rv_X1_makeWhole : q_rcv q_T yX1_makeWhole.cls sp_X1_makeWhole := by
  intro ra μ K h
  obtain ⟨this, recipe, out, rfl, h⟩ := sp_X1_makeWhole_i h
  obtain rfl := h.1
  exact ⟨[.inr (.inr out), .inr (.inr recipe)], 34, 1, _, _, rfl, T_34, rfl, rfl⟩
theorem cm_X1_makeWhole : Cond.code yX1_makeWhole cX1_makeWhole 5 none ∈ q_tb := by decide +kernel

