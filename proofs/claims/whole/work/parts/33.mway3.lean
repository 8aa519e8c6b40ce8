/-! the reference: workWay, its rounds and its end -/
theorem ww_adj {w h : Int} {B : Int → Int → Int} {f : Int → Int} (hd : m_dim w h) (hr : ∀ i : Int, 0 ≤ i → i < 576 → ww_rl w h B f i) : ∀ x y u v : Int, m_in w h x y → m_in w h u v → m_adj x y u v → 0 ≤ f (12 * y + x) → ¬ B u v = -2000000000 → 0 ≤ f (12 * v + u) ∧ f (12 * v + u) ≤ f (12 * y + x) + m_ct B u v := by
  intro x y u v a1 a2 a3 a4 a5
  have go : ∀ d : Int, 0 ≤ d → d < 4 → u = x + m_sx d → v = y + m_sy d → 0 ≤ f (12 * v + u) ∧ f (12 * v + u) ≤ f (12 * y + x) + m_ct B u v := by
    intro d d0 d1 e1 e2
    have k1 : (48 * y + 4 * x + d) / 4 % 12 = x := by omega
    have k2 : (48 * y + 4 * x + d) / 48 = y := by omega
    have k3 : (48 * y + 4 * x + d) % 4 = d := by omega
    exact hr (48 * y + 4 * x + d) (by omega) (by omega) x y u v k1.symm k2.symm (by rw [k3]; exact e1) (by rw [k3]; exact e2) a1 a2 a4 a5
  rcases a3 with ⟨e1, e2⟩ | ⟨e1, e2⟩ | ⟨e1, e2⟩ | ⟨e1, e2⟩
  · exact go 0 (by omega) (by omega) (by simp [m_sx]; omega) (by simp [m_sy]; omega)
  · exact go 1 (by omega) (by omega) (by simp [m_sx]; omega) (by simp [m_sy]; omega)
  · exact go 2 (by omega) (by omega) (by simp [m_sx]; omega) (by simp [m_sy]; omega)
  · exact go 3 (by omega) (by omega) (by simp [m_sx]; omega) (by simp [m_sy]; omega)
/-- what the rounds end with -/
def ww_end (S : Nat → QL → List QV → QM → Prop) (μ : QM) (w h b fr co : Int) : Prop := ∀ (f : Int → Int) (l6 l7 l8 l9 l10 : Option QV), m_isw w h (m_at μ fr) (m_at μ co) (fun x y => f (12 * y + x)) → (∀ x y : Int, m_in w h x y → -1 ≤ f (12 * y + x) ∧ f (12 * y + x) ≤ 144000000000) → S 344 [some (.inr (.inr 85)), some (.inl b), some (.inl fr), some (.inl co), some (.inl 0), some (.inl 0), l6, l7, l8, l9, l10, none] [] (q_blk μ 97 144 f)
theorem ww_fin {S : Nat → QL → List QV → QM → Prop} {μ : QM} {w h b fr co : Int} {f : Int → Int} (H : ww_ok μ w h b fr co) (hk : ww_end S μ w h b fr co) (hI : m_winv w h (m_at μ fr) (m_at μ co) f) (hr : ∀ i : Int, 0 ≤ i → i < 576 → ww_rl w h (m_at μ co) f i) (l6 l7 l8 l9 l10 : Option QV) : S 344 [some (.inr (.inr 85)), some (.inl b), some (.inl fr), some (.inl co), some (.inl 0), some (.inl 0), l6, l7, l8, l9, l10, none] [] (q_blk μ 97 144 f) := by
  obtain ⟨q1, q2, q3, q4, q5, q6, q7, q8⟩ := id H
  have hU := m_uf_b q3 f
  refine hk f l6 l7 l8 l9 l10 (m_fix hI (ww_adj q3 hr)) (fun x y q => ?_)
  have := hI x y q
  omega
set_option maxRecDepth 100000 in
theorem ww_step {Rt : Option QV → QM → Prop} {S : Nat → QL → List QV → QM → Prop} (hR : q_Rule cX11_workWay 12 u_X11_workWay fl_X11 ld_X11 G_X11_workWay q_T 4 s_X11_workWay Rt S) {μ : QM} {w h b fr co : Int} (H : ww_ok μ w h b fr co) (hk : ww_end S μ w h b fr co) {f : Int → Int} (hI : m_winv w h (m_at μ fr) (m_at μ co) f)
    (rc : ∀ (f' : Int → Int) (l5 l6 l7 l8 l9 l10 : Option QV), m_winv w h (m_at μ fr) (m_at μ co) f' → m_lx w h f' f → S 119 [some (.inr (.inr 85)), some (.inl b), some (.inl fr), some (.inl co), some (.inl 1), l5, l6, l7, l8, l9, l10, none] [] (q_blk μ 97 144 f')) (l5 l6 l7 l8 l9 l10 : Option QV) :
    S 119 [some (.inr (.inr 85)), some (.inl b), some (.inl fr), some (.inl co), some (.inl 1), l5, l6, l7, l8, l9, l10, none] [] (q_blk μ 97 144 f) := by
  refine hR 60 b_X11_workWay_119 119 _ _ _ o_X11_workWay_119 ?_
  simp only [v_opt_n, v_opt_s, v_nil, v_iconst, v_bipush, v_sipush, v_lconst0, v_lconst1, v_ldc, v_ldcw, v_ldc2, v_iload0, v_iload1, v_iload2, v_iload3, v_iload, v_lload0, v_lload1, v_lload2, v_lload3, v_lload, v_aload0, v_aload1, v_aload2, v_aload3, v_aload, v_istore0, v_istore1, v_istore2, v_istore3, v_istore, v_lstore0, v_lstore1, v_lstore2, v_lstore3, v_lstore, v_astore0, v_astore1, v_astore2, v_astore3, v_astore, v_iinc, v_iadd, v_isub, v_imul, v_iand, v_ior, v_ixor, v_ishl, v_ishr, v_iushr, v_ineg, v_idiv, v_irem, v_ladd, v_lsub, v_lmul, v_lcmp, v_i2l, v_l2i, v_i2c, v_dup, v_dup2, v_if_eq, v_if_ne, v_if_lt, v_if_ge, v_if_gt, v_if_le, v_ic_eq, v_ic_ne, v_ic_lt, v_ic_ge, v_ic_gt, v_ic_le, v_goto, v_tsw, v_lsw, v_ireturn, v_areturn, v_return, v_iaload, v_laload, v_baload, v_caload, v_aaload, v_iastore, v_lastore, v_bastore, v_castore, v_alen, v_invvi, v_invst, v_invsp, e_int, e_lng, e_ref, e_lg0, e_lg1, e_lg2, e_lg3, e_lg4, e_lg5, e_lg6, e_lg7, e_lg8, e_lg9, e_lg10, e_lg11, e_lg12, e_lg13, e_clrI, e_clrJ, e_clrP, e_clrN, e_s0, e_s1, e_s2, e_s3, e_s4, e_s5, e_s6, e_s7, e_s8, e_s9, e_s10, e_s11, e_s12, e_s13, e_t0, e_t1, e_t2, e_t3, e_t4, e_t5, e_t6, e_t7, e_t8, e_t9, e_t10, e_t11, e_t12, e_t13, e_fd, e_kk, e_k0, e_k1, e_k2, e_k3, e_k4, e_k5, e_k6, e_k7, e_k8, e_k9, e_sv0, e_sv1, e_sv2, e_sv3, e_svc, e_pf0, e_pf1, e_pf2, e_pf3, e_ar, e_aa, e_al, e_sw1, e_sw2, e_ct0, e_ct1, e_ct2, e_cat0, e_cat1, e_rk0, e_rk1, e_rk2, e_inv0, e_inv1, e_inv2, e_inv3, e_inv4, e_inv5, e_inv6, e_o0, e_o1, e_cl, e_cle, e_cg, e_cge, e_ce, e_cr1, e_cr2, e_r, e_R, e_up, Int.cast_ofNat_Int, u_app, false_and, and_false, e_b0, e_b1, e_bn, e_bl, e_bu, Int.reduceLE, Int.reduceLT, Int.reduceEq, Int.reduceNeg, Int.reduceAdd, Int.reduceSub, Int.reduceMul, Nat.reduceLeDiff, Nat.reduceLT, Nat.reduceAdd, Nat.reduceEqDiff, true_and, and_true, true_or, or_true, false_or, or_false, forall_const, not_true_eq_false, not_false_eq_true, true_implies, false_implies, implies_true, and_self, zero_ne_one, one_ne_zero, eq_self, reduceIte, s_X11_workWay_0, b_X11_workWay_0, s_X11_workWay_23, b_X11_workWay_23, s_X11_workWay_32, b_X11_workWay_32, s_X11_workWay_35, b_X11_workWay_35, s_X11_workWay_44, b_X11_workWay_44, s_X11_workWay_70, b_X11_workWay_70, s_X11_workWay_84, b_X11_workWay_84, s_X11_workWay_96, b_X11_workWay_96, s_X11_workWay_100, b_X11_workWay_100, s_X11_workWay_103, b_X11_workWay_103, s_X11_workWay_110, b_X11_workWay_110, s_X11_workWay_116, b_X11_workWay_116, s_X11_workWay_119, b_X11_workWay_119, s_X11_workWay_124, b_X11_workWay_124, s_X11_workWay_130, b_X11_workWay_130, s_X11_workWay_138, b_X11_workWay_138, s_X11_workWay_189, b_X11_workWay_189, s_X11_workWay_200, b_X11_workWay_200, s_X11_workWay_218, b_X11_workWay_218, s_X11_workWay_232, b_X11_workWay_232, s_X11_workWay_235, b_X11_workWay_235, s_X11_workWay_260, b_X11_workWay_260, s_X11_workWay_264, b_X11_workWay_264, s_X11_workWay_273, b_X11_workWay_273, s_X11_workWay_295, b_X11_workWay_295, s_X11_workWay_314, b_X11_workWay_314, s_X11_workWay_332, b_X11_workWay_332, s_X11_workWay_338, b_X11_workWay_338, s_X11_workWay_341, b_X11_workWay_341, s_X11_workWay_344, b_X11_workWay_344, s_X11_workWay_353, b_X11_workWay_353, s_X11_workWay_356, b_X11_workWay_356, s_X11_workWay_365, b_X11_workWay_365, s_X11_workWay_389, b_X11_workWay_389, s_X11_workWay_394, b_X11_workWay_394, s_X11_workWay_410, b_X11_workWay_410, s_X11_workWay_419, b_X11_workWay_419, s_X11_workWay_425, b_X11_workWay_425, g_X11_36, g_X11_13, g_X11_7, g_X11_51, ld_X11_91, ld_X11_204, G_X11_workWay_189, sp_X11_at_e, G_X11_workWay_113, sp_X11_isCell_e, G_X11_workWay_186, sp_X11_set_e, G_X11_workWay_206, sp_X11_stepX_e, G_X11_workWay_209, sp_X11_stepY_e, G_X11_workWay_172, sp_X11_kept_e]
  refine ww_sw hR H 576 0 0 f l6 l7 l8 l9 l10 (by omega) (by omega) hI (Or.inl rfl) (fun m' f' l5 l6 l7 l8 l9 l10 hI' hc => ?_)
  rcases hc with ⟨c1, c2, c3⟩ | ⟨c1, c2⟩
  · subst c1; subst c2
    refine hR 60 b_X11_workWay_119 119 _ _ _ o_X11_workWay_119 ?_
    simp only [v_opt_n, v_opt_s, v_nil, v_iconst, v_bipush, v_sipush, v_lconst0, v_lconst1, v_ldc, v_ldcw, v_ldc2, v_iload0, v_iload1, v_iload2, v_iload3, v_iload, v_lload0, v_lload1, v_lload2, v_lload3, v_lload, v_aload0, v_aload1, v_aload2, v_aload3, v_aload, v_istore0, v_istore1, v_istore2, v_istore3, v_istore, v_lstore0, v_lstore1, v_lstore2, v_lstore3, v_lstore, v_astore0, v_astore1, v_astore2, v_astore3, v_astore, v_iinc, v_iadd, v_isub, v_imul, v_iand, v_ior, v_ixor, v_ishl, v_ishr, v_iushr, v_ineg, v_idiv, v_irem, v_ladd, v_lsub, v_lmul, v_lcmp, v_i2l, v_l2i, v_i2c, v_dup, v_dup2, v_if_eq, v_if_ne, v_if_lt, v_if_ge, v_if_gt, v_if_le, v_ic_eq, v_ic_ne, v_ic_lt, v_ic_ge, v_ic_gt, v_ic_le, v_goto, v_tsw, v_lsw, v_ireturn, v_areturn, v_return, v_iaload, v_laload, v_baload, v_caload, v_aaload, v_iastore, v_lastore, v_bastore, v_castore, v_alen, v_invvi, v_invst, v_invsp, e_int, e_lng, e_ref, e_lg0, e_lg1, e_lg2, e_lg3, e_lg4, e_lg5, e_lg6, e_lg7, e_lg8, e_lg9, e_lg10, e_lg11, e_lg12, e_lg13, e_clrI, e_clrJ, e_clrP, e_clrN, e_s0, e_s1, e_s2, e_s3, e_s4, e_s5, e_s6, e_s7, e_s8, e_s9, e_s10, e_s11, e_s12, e_s13, e_t0, e_t1, e_t2, e_t3, e_t4, e_t5, e_t6, e_t7, e_t8, e_t9, e_t10, e_t11, e_t12, e_t13, e_fd, e_kk, e_k0, e_k1, e_k2, e_k3, e_k4, e_k5, e_k6, e_k7, e_k8, e_k9, e_sv0, e_sv1, e_sv2, e_sv3, e_svc, e_pf0, e_pf1, e_pf2, e_pf3, e_ar, e_aa, e_al, e_sw1, e_sw2, e_ct0, e_ct1, e_ct2, e_cat0, e_cat1, e_rk0, e_rk1, e_rk2, e_inv0, e_inv1, e_inv2, e_inv3, e_inv4, e_inv5, e_inv6, e_o0, e_o1, e_cl, e_cle, e_cg, e_cge, e_ce, e_cr1, e_cr2, e_r, e_R, e_up, Int.cast_ofNat_Int, u_app, false_and, and_false, e_b0, e_b1, e_bn, e_bl, e_bu, Int.reduceLE, Int.reduceLT, Int.reduceEq, Int.reduceNeg, Int.reduceAdd, Int.reduceSub, Int.reduceMul, Nat.reduceLeDiff, Nat.reduceLT, Nat.reduceAdd, Nat.reduceEqDiff, true_and, and_true, true_or, or_true, false_or, or_false, forall_const, not_true_eq_false, not_false_eq_true, true_implies, false_implies, implies_true, and_self, zero_ne_one, one_ne_zero, eq_self, reduceIte, s_X11_workWay_0, b_X11_workWay_0, s_X11_workWay_23, b_X11_workWay_23, s_X11_workWay_32, b_X11_workWay_32, s_X11_workWay_35, b_X11_workWay_35, s_X11_workWay_44, b_X11_workWay_44, s_X11_workWay_70, b_X11_workWay_70, s_X11_workWay_84, b_X11_workWay_84, s_X11_workWay_96, b_X11_workWay_96, s_X11_workWay_100, b_X11_workWay_100, s_X11_workWay_103, b_X11_workWay_103, s_X11_workWay_110, b_X11_workWay_110, s_X11_workWay_116, b_X11_workWay_116, s_X11_workWay_119, b_X11_workWay_119, s_X11_workWay_124, b_X11_workWay_124, s_X11_workWay_130, b_X11_workWay_130, s_X11_workWay_138, b_X11_workWay_138, s_X11_workWay_189, b_X11_workWay_189, s_X11_workWay_200, b_X11_workWay_200, s_X11_workWay_218, b_X11_workWay_218, s_X11_workWay_232, b_X11_workWay_232, s_X11_workWay_235, b_X11_workWay_235, s_X11_workWay_260, b_X11_workWay_260, s_X11_workWay_264, b_X11_workWay_264, s_X11_workWay_273, b_X11_workWay_273, s_X11_workWay_295, b_X11_workWay_295, s_X11_workWay_314, b_X11_workWay_314, s_X11_workWay_332, b_X11_workWay_332, s_X11_workWay_338, b_X11_workWay_338, s_X11_workWay_341, b_X11_workWay_341, s_X11_workWay_344, b_X11_workWay_344, s_X11_workWay_353, b_X11_workWay_353, s_X11_workWay_356, b_X11_workWay_356, s_X11_workWay_365, b_X11_workWay_365, s_X11_workWay_389, b_X11_workWay_389, s_X11_workWay_394, b_X11_workWay_394, s_X11_workWay_410, b_X11_workWay_410, s_X11_workWay_419, b_X11_workWay_419, s_X11_workWay_425, b_X11_workWay_425, g_X11_36, g_X11_13, g_X11_7, g_X11_51, ld_X11_91, ld_X11_204, G_X11_workWay_189, sp_X11_at_e, G_X11_workWay_113, sp_X11_isCell_e, G_X11_workWay_186, sp_X11_set_e, G_X11_workWay_206, sp_X11_stepX_e, G_X11_workWay_209, sp_X11_stepY_e, G_X11_workWay_172, sp_X11_kept_e]
    exact ww_fin H hk hI c3 _ _ _ _ _
  · subst c1
    exact rc f' l5 l6 l7 l8 l9 l10 hI' c2
theorem ww_wh {Rt : Option QV → QM → Prop} {S : Nat → QL → List QV → QM → Prop} (hR : q_Rule cX11_workWay 12 u_X11_workWay fl_X11 ld_X11 G_X11_workWay q_T 4 s_X11_workWay Rt S) {μ : QM} {w h b fr co : Int} (H : ww_ok μ w h b fr co) (hk : ww_end S μ w h b fr co) : ∀ (U s : Nat) (f : Int → Int) (l5 l6 l7 l8 l9 l10 : Option QV), m_winv w h (m_at μ fr) (m_at μ co) f → m_s2 w h (m_uf f) ≤ U → m_s2 w h (m_sf f) ≤ s → S 119 [some (.inr (.inr 85)), some (.inl b), some (.inl fr), some (.inl co), some (.inl 1), l5, l6, l7, l8, l9, l10, none] [] (q_blk μ 97 144 f) := by
  have q3 := H.2.2.1
  intro U
  induction U with
  | zero =>
    intro s
    induction s with
    | zero =>
      intro f l5 l6 l7 l8 l9 l10 hI h1 h2
      refine ww_step hR H hk hI (fun f' l5 l6 l7 l8 l9 l10 hI' hl => ?_) l5 l6 l7 l8 l9 l10
      have a1 := m_uf_b q3 f'
      have a2 := m_sf_b (w := w) (h := h) f'
      unfold m_lx at hl
      omega
    | succ s ihs =>
      intro f l5 l6 l7 l8 l9 l10 hI h1 h2
      refine ww_step hR H hk hI (fun f' l5 l6 l7 l8 l9 l10 hI' hl => ?_) l5 l6 l7 l8 l9 l10
      have a1 := m_uf_b q3 f'
      unfold m_lx at hl
      exact ihs f' l5 l6 l7 l8 l9 l10 hI' (by omega) (by omega)
  | succ U ihU =>
    intro s
    induction s with
    | zero =>
      intro f l5 l6 l7 l8 l9 l10 hI h1 h2
      refine ww_step hR H hk hI (fun f' l5 l6 l7 l8 l9 l10 hI' hl => ?_) l5 l6 l7 l8 l9 l10
      have a2 := m_sf_b (w := w) (h := h) f'
      unfold m_lx at hl
      exact ihU (m_s2 w h (m_sf f')).toNat f' l5 l6 l7 l8 l9 l10 hI' (by omega) (by omega)
    | succ s ihs =>
      intro f l5 l6 l7 l8 l9 l10 hI h1 h2
      refine ww_step hR H hk hI (fun f' l5 l6 l7 l8 l9 l10 hI' hl => ?_) l5 l6 l7 l8 l9 l10
      have a2 := m_sf_b (w := w) (h := h) f'
      unfold m_lx at hl
      by_cases c : m_s2 w h (m_uf f') < m_s2 w h (m_uf f)
      · exact ihU (m_s2 w h (m_sf f')).toNat f' l5 l6 l7 l8 l9 l10 hI' (by omega) (by omega)
      · exact ihs f' l5 l6 l7 l8 l9 l10 hI' (by omega) (by omega)
theorem wr_rd {μ : QM} {b : Int} {g f : Int → Int} : (∀ j : Int, q_reg (q_blk μ 97 144 g) b f 85 j = μ 85 j) ∧ ∀ k : Int, 0 ≤ k ∧ k < 144 → q_reg (q_blk μ 97 144 g) b f 97 k = g k := by
  refine ⟨fun j => ?_, fun k hk => ?_⟩
  · simp only [u_reg, u_blk, Int.reduceEq, false_and, if_false]
  · simp only [u_reg, u_blk, Int.reduceEq, false_and, if_false, true_and]
    rw [if_pos hk]
set_option maxRecDepth 100000 in
set_option maxHeartbeats 4000000 in
theorem ww_2x {Rt : Option QV → QM → Prop} {S : Nat → QL → List QV → QM → Prop} (hR : q_Rule cX11_workWay 12 u_X11_workWay fl_X11 ld_X11 G_X11_workWay q_T 4 s_X11_workWay Rt S) {μ : QM} {w h b fr co y : Int} {g : Int → Int} {l7 l8 l9 l10 : Option QV} (H : ww_ok μ w h b fr co) (hg : ∀ x y : Int, m_in w h x y → -1 ≤ g (12 * y + x) ∧ g (12 * y + x) ≤ 144000000000) (hy : 0 ≤ y ∧ y < h) :
    ∀ (d : Nat) (x : Int) (f : Int → Int), 0 ≤ x → x + d = w → (∀ (l6 : Option QV) (f' : Int → Int), (∀ j : Int, (j < 12 * y + x ∨ 12 * y + w ≤ j) → f' j = f j) → (∀ u : Int, x ≤ u → u < w → f' (12 * y + u) = (if g (12 * y + u) < 0 then -2000000000 else q_kept (g (12 * y + u)))) → S 344 [some (.inr (.inr 85)), some (.inl b), some (.inl fr), some (.inl co), some (.inl 0), some (.inl (y + 1)), l6, l7, l8, l9, l10, none] [] (q_reg (q_blk μ 97 144 g) b f')) →
    S 356 [some (.inr (.inr 85)), some (.inl b), some (.inl fr), some (.inl co), some (.inl 0), some (.inl y), some (.inl x), l7, l8, l9, l10, none] [] (q_reg (q_blk μ 97 144 g) b f) := by
  intro d
  induction d with
  | zero =>
    intro x f h1 h2 hk
    obtain ⟨q1, q2, q3, q4, q5, q6, q7, q8⟩ := H
    have e1 := fun f => (wr_rd (μ := μ) (b := b) (g := g) (f := f)).1
    refine hR 80 b_X11_workWay_356 356 _ _ _ o_X11_workWay_356 ?_
    simp only [v_opt_n, v_opt_s, v_nil, v_iconst, v_bipush, v_sipush, v_lconst0, v_lconst1, v_ldc, v_ldcw, v_ldc2, v_iload0, v_iload1, v_iload2, v_iload3, v_iload, v_lload0, v_lload1, v_lload2, v_lload3, v_lload, v_aload0, v_aload1, v_aload2, v_aload3, v_aload, v_istore0, v_istore1, v_istore2, v_istore3, v_istore, v_lstore0, v_lstore1, v_lstore2, v_lstore3, v_lstore, v_astore0, v_astore1, v_astore2, v_astore3, v_astore, v_iinc, v_iadd, v_isub, v_imul, v_iand, v_ior, v_ixor, v_ishl, v_ishr, v_iushr, v_ineg, v_idiv, v_irem, v_ladd, v_lsub, v_lmul, v_lcmp, v_i2l, v_l2i, v_i2c, v_dup, v_dup2, v_if_eq, v_if_ne, v_if_lt, v_if_ge, v_if_gt, v_if_le, v_ic_eq, v_ic_ne, v_ic_lt, v_ic_ge, v_ic_gt, v_ic_le, v_goto, v_tsw, v_lsw, v_ireturn, v_areturn, v_return, v_iaload, v_laload, v_baload, v_caload, v_aaload, v_iastore, v_lastore, v_bastore, v_castore, v_alen, v_invvi, v_invst, v_invsp, e_int, e_lng, e_ref, e_lg0, e_lg1, e_lg2, e_lg3, e_lg4, e_lg5, e_lg6, e_lg7, e_lg8, e_lg9, e_lg10, e_lg11, e_lg12, e_lg13, e_clrI, e_clrJ, e_clrP, e_clrN, e_s0, e_s1, e_s2, e_s3, e_s4, e_s5, e_s6, e_s7, e_s8, e_s9, e_s10, e_s11, e_s12, e_s13, e_t0, e_t1, e_t2, e_t3, e_t4, e_t5, e_t6, e_t7, e_t8, e_t9, e_t10, e_t11, e_t12, e_t13, e_fd, e_kk, e_k0, e_k1, e_k2, e_k3, e_k4, e_k5, e_k6, e_k7, e_k8, e_k9, e_sv0, e_sv1, e_sv2, e_sv3, e_svc, e_pf0, e_pf1, e_pf2, e_pf3, e_ar, e_aa, e_al, e_sw1, e_sw2, e_ct0, e_ct1, e_ct2, e_cat0, e_cat1, e_rk0, e_rk1, e_rk2, e_inv0, e_inv1, e_inv2, e_inv3, e_inv4, e_inv5, e_inv6, e_o0, e_o1, e_cl, e_cle, e_cg, e_cge, e_ce, e_cr1, e_cr2, e_r, e_R, e_up, Int.cast_ofNat_Int, u_app, false_and, and_false, e_b0, e_b1, e_bn, e_bl, e_bu, Int.reduceLE, Int.reduceLT, Int.reduceEq, Int.reduceNeg, Int.reduceAdd, Int.reduceSub, Int.reduceMul, Nat.reduceLeDiff, Nat.reduceLT, Nat.reduceAdd, Nat.reduceEqDiff, true_and, and_true, true_or, or_true, false_or, or_false, forall_const, not_true_eq_false, not_false_eq_true, true_implies, false_implies, implies_true, and_self, zero_ne_one, one_ne_zero, eq_self, reduceIte, s_X11_workWay_0, b_X11_workWay_0, s_X11_workWay_23, b_X11_workWay_23, s_X11_workWay_32, b_X11_workWay_32, s_X11_workWay_35, b_X11_workWay_35, s_X11_workWay_44, b_X11_workWay_44, s_X11_workWay_70, b_X11_workWay_70, s_X11_workWay_84, b_X11_workWay_84, s_X11_workWay_96, b_X11_workWay_96, s_X11_workWay_100, b_X11_workWay_100, s_X11_workWay_103, b_X11_workWay_103, s_X11_workWay_110, b_X11_workWay_110, s_X11_workWay_116, b_X11_workWay_116, s_X11_workWay_119, b_X11_workWay_119, s_X11_workWay_124, b_X11_workWay_124, s_X11_workWay_130, b_X11_workWay_130, s_X11_workWay_138, b_X11_workWay_138, s_X11_workWay_189, b_X11_workWay_189, s_X11_workWay_200, b_X11_workWay_200, s_X11_workWay_218, b_X11_workWay_218, s_X11_workWay_232, b_X11_workWay_232, s_X11_workWay_235, b_X11_workWay_235, s_X11_workWay_260, b_X11_workWay_260, s_X11_workWay_264, b_X11_workWay_264, s_X11_workWay_273, b_X11_workWay_273, s_X11_workWay_295, b_X11_workWay_295, s_X11_workWay_314, b_X11_workWay_314, s_X11_workWay_332, b_X11_workWay_332, s_X11_workWay_338, b_X11_workWay_338, s_X11_workWay_341, b_X11_workWay_341, s_X11_workWay_344, b_X11_workWay_344, s_X11_workWay_353, b_X11_workWay_353, s_X11_workWay_356, b_X11_workWay_356, s_X11_workWay_365, b_X11_workWay_365, s_X11_workWay_389, b_X11_workWay_389, s_X11_workWay_394, b_X11_workWay_394, s_X11_workWay_410, b_X11_workWay_410, s_X11_workWay_419, b_X11_workWay_419, s_X11_workWay_425, b_X11_workWay_425, g_X11_36, g_X11_13, g_X11_7, g_X11_51, ld_X11_91, ld_X11_204, G_X11_workWay_189, sp_X11_at_e, G_X11_workWay_113, sp_X11_isCell_e, G_X11_workWay_186, sp_X11_set_e, G_X11_workWay_206, sp_X11_stepX_e, G_X11_workWay_209, sp_X11_stepY_e, G_X11_workWay_172, sp_X11_kept_e, e1, q1, q2]
    exact ⟨by omega, fun _ => hk _ f (fun _ _ => rfl) (fun u a b => by omega), fun c => by omega⟩
  | succ d ih =>
    intro x f h1 h2 hk
    obtain ⟨q1, q2, q3, q4, q5, q6, q7, q8⟩ := id H
    have hxy : m_in w h x y := ⟨h1, by omega, hy.1, hy.2⟩
    have hgx := hg x y hxy
    have e1 := fun f => (wr_rd (μ := μ) (b := b) (g := g) (f := f)).1
    have e2 := fun f => (wr_rd (μ := μ) (b := b) (g := g) (f := f)).2 (12 * y + x) (by omega)
    have eU : ∀ (f : Int → Int) (v : Int), q_up (q_reg (q_blk μ 97 144 g) b f) 96 (144 * b + 12 * y + x) v = q_reg (q_blk μ 97 144 g) b (fun i => if i = 12 * y + x then v else f i) := fun f v => q_reg_up (by omega) (by omega)
    have next : ∀ v : Int, v = (if g (12 * y + x) < 0 then -2000000000 else q_kept (g (12 * y + x))) → S 356 [some (.inr (.inr 85)), some (.inl b), some (.inl fr), some (.inl co), some (.inl 0), some (.inl y), some (.inl (x + 1)), l7, l8, l9, l10, none] [] (q_reg (q_blk μ 97 144 g) b (fun i => if i = 12 * y + x then v else f i)) := by
      intro v ev
      refine ih (x + 1) _ (by omega) (by omega) (fun l6 f' a1 a2 => hk l6 f' (fun j hj => ?_) (fun u u1 u2 => ?_))
      · have := a1 j (by omega)
        rw [this]
        exact if_neg (by omega)
      · by_cases c : u = x
        · subst c
          have := a1 (12 * y + u) (by omega)
          rw [this, if_pos rfl]
          exact ev
        · exact a2 u (by omega) u2
    refine hR 120 b_X11_workWay_356 356 _ _ _ o_X11_workWay_356 ?_
    simp only [v_opt_n, v_opt_s, v_nil, v_iconst, v_bipush, v_sipush, v_lconst0, v_lconst1, v_ldc, v_ldcw, v_ldc2, v_iload0, v_iload1, v_iload2, v_iload3, v_iload, v_lload0, v_lload1, v_lload2, v_lload3, v_lload, v_aload0, v_aload1, v_aload2, v_aload3, v_aload, v_istore0, v_istore1, v_istore2, v_istore3, v_istore, v_lstore0, v_lstore1, v_lstore2, v_lstore3, v_lstore, v_astore0, v_astore1, v_astore2, v_astore3, v_astore, v_iinc, v_iadd, v_isub, v_imul, v_iand, v_ior, v_ixor, v_ishl, v_ishr, v_iushr, v_ineg, v_idiv, v_irem, v_ladd, v_lsub, v_lmul, v_lcmp, v_i2l, v_l2i, v_i2c, v_dup, v_dup2, v_if_eq, v_if_ne, v_if_lt, v_if_ge, v_if_gt, v_if_le, v_ic_eq, v_ic_ne, v_ic_lt, v_ic_ge, v_ic_gt, v_ic_le, v_goto, v_tsw, v_lsw, v_ireturn, v_areturn, v_return, v_iaload, v_laload, v_baload, v_caload, v_aaload, v_iastore, v_lastore, v_bastore, v_castore, v_alen, v_invvi, v_invst, v_invsp, e_int, e_lng, e_ref, e_lg0, e_lg1, e_lg2, e_lg3, e_lg4, e_lg5, e_lg6, e_lg7, e_lg8, e_lg9, e_lg10, e_lg11, e_lg12, e_lg13, e_clrI, e_clrJ, e_clrP, e_clrN, e_s0, e_s1, e_s2, e_s3, e_s4, e_s5, e_s6, e_s7, e_s8, e_s9, e_s10, e_s11, e_s12, e_s13, e_t0, e_t1, e_t2, e_t3, e_t4, e_t5, e_t6, e_t7, e_t8, e_t9, e_t10, e_t11, e_t12, e_t13, e_fd, e_kk, e_k0, e_k1, e_k2, e_k3, e_k4, e_k5, e_k6, e_k7, e_k8, e_k9, e_sv0, e_sv1, e_sv2, e_sv3, e_svc, e_pf0, e_pf1, e_pf2, e_pf3, e_ar, e_aa, e_al, e_sw1, e_sw2, e_ct0, e_ct1, e_ct2, e_cat0, e_cat1, e_rk0, e_rk1, e_rk2, e_inv0, e_inv1, e_inv2, e_inv3, e_inv4, e_inv5, e_inv6, e_o0, e_o1, e_cl, e_cle, e_cg, e_cge, e_ce, e_cr1, e_cr2, e_r, e_R, e_up, Int.cast_ofNat_Int, u_app, false_and, and_false, e_b0, e_b1, e_bn, e_bl, e_bu, Int.reduceLE, Int.reduceLT, Int.reduceEq, Int.reduceNeg, Int.reduceAdd, Int.reduceSub, Int.reduceMul, Nat.reduceLeDiff, Nat.reduceLT, Nat.reduceAdd, Nat.reduceEqDiff, true_and, and_true, true_or, or_true, false_or, or_false, forall_const, not_true_eq_false, not_false_eq_true, true_implies, false_implies, implies_true, and_self, zero_ne_one, one_ne_zero, eq_self, reduceIte, s_X11_workWay_0, b_X11_workWay_0, s_X11_workWay_23, b_X11_workWay_23, s_X11_workWay_32, b_X11_workWay_32, s_X11_workWay_35, b_X11_workWay_35, s_X11_workWay_44, b_X11_workWay_44, s_X11_workWay_70, b_X11_workWay_70, s_X11_workWay_84, b_X11_workWay_84, s_X11_workWay_96, b_X11_workWay_96, s_X11_workWay_100, b_X11_workWay_100, s_X11_workWay_103, b_X11_workWay_103, s_X11_workWay_110, b_X11_workWay_110, s_X11_workWay_116, b_X11_workWay_116, s_X11_workWay_119, b_X11_workWay_119, s_X11_workWay_124, b_X11_workWay_124, s_X11_workWay_130, b_X11_workWay_130, s_X11_workWay_138, b_X11_workWay_138, s_X11_workWay_189, b_X11_workWay_189, s_X11_workWay_200, b_X11_workWay_200, s_X11_workWay_218, b_X11_workWay_218, s_X11_workWay_232, b_X11_workWay_232, s_X11_workWay_235, b_X11_workWay_235, s_X11_workWay_260, b_X11_workWay_260, s_X11_workWay_264, b_X11_workWay_264, s_X11_workWay_273, b_X11_workWay_273, s_X11_workWay_295, b_X11_workWay_295, s_X11_workWay_314, b_X11_workWay_314, s_X11_workWay_332, b_X11_workWay_332, s_X11_workWay_338, b_X11_workWay_338, s_X11_workWay_341, b_X11_workWay_341, s_X11_workWay_344, b_X11_workWay_344, s_X11_workWay_353, b_X11_workWay_353, s_X11_workWay_356, b_X11_workWay_356, s_X11_workWay_365, b_X11_workWay_365, s_X11_workWay_389, b_X11_workWay_389, s_X11_workWay_394, b_X11_workWay_394, s_X11_workWay_410, b_X11_workWay_410, s_X11_workWay_419, b_X11_workWay_419, s_X11_workWay_425, b_X11_workWay_425, g_X11_36, g_X11_13, g_X11_7, g_X11_51, ld_X11_91, ld_X11_204, G_X11_workWay_189, sp_X11_at_e, G_X11_workWay_113, sp_X11_isCell_e, G_X11_workWay_186, sp_X11_set_e, G_X11_workWay_206, sp_X11_stepX_e, G_X11_workWay_209, sp_X11_stepY_e, G_X11_workWay_172, sp_X11_kept_e, e1, e2, eU, q1, q2, T_97]
    (repeat' (first | assumption | (refine And.intro ?_ ?_) | (intro _))) <;> first
      | omega
      | (exfalso; omega)
      | exact next _ (by rw [if_pos (by omega)])
      | exact next _ (by rw [if_neg (by omega)])
set_option maxRecDepth 100000 in
set_option maxHeartbeats 4000000 in
theorem ww_2y {Rt : Option QV → QM → Prop} {S : Nat → QL → List QV → QM → Prop} (hR : q_Rule cX11_workWay 12 u_X11_workWay fl_X11 ld_X11 G_X11_workWay q_T 4 s_X11_workWay Rt S) {μ : QM} {w h b fr co : Int} {g : Int → Int} {l7 l8 l9 l10 : Option QV} (H : ww_ok μ w h b fr co) (hg : ∀ x y : Int, m_in w h x y → -1 ≤ g (12 * y + x) ∧ g (12 * y + x) ≤ 144000000000) :
    ∀ (d : Nat) (y : Int) (f : Int → Int) (l6 : Option QV), 0 ≤ y → y + d = h → (∀ (f' : Int → Int), (∀ j : Int, j < 12 * y → f' j = f j) → (∀ u v : Int, 0 ≤ u → u < w → y ≤ v → v < h → f' (12 * v + u) = (if g (12 * v + u) < 0 then -2000000000 else q_kept (g (12 * v + u)))) → Rt none (q_reg (q_blk μ 97 144 g) b f')) →
    S 344 [some (.inr (.inr 85)), some (.inl b), some (.inl fr), some (.inl co), some (.inl 0), some (.inl y), l6, l7, l8, l9, l10, none] [] (q_reg (q_blk μ 97 144 g) b f) := by
  intro d
  induction d with
  | zero =>
    intro y f l6 h1 h2 hk
    obtain ⟨q1, q2, q3, q4, q5, q6, q7, q8⟩ := H
    have e1 := fun f => (wr_rd (μ := μ) (b := b) (g := g) (f := f)).1
    refine hR 80 b_X11_workWay_344 344 _ _ _ o_X11_workWay_344 ?_
    simp only [v_opt_n, v_opt_s, v_nil, v_iconst, v_bipush, v_sipush, v_lconst0, v_lconst1, v_ldc, v_ldcw, v_ldc2, v_iload0, v_iload1, v_iload2, v_iload3, v_iload, v_lload0, v_lload1, v_lload2, v_lload3, v_lload, v_aload0, v_aload1, v_aload2, v_aload3, v_aload, v_istore0, v_istore1, v_istore2, v_istore3, v_istore, v_lstore0, v_lstore1, v_lstore2, v_lstore3, v_lstore, v_astore0, v_astore1, v_astore2, v_astore3, v_astore, v_iinc, v_iadd, v_isub, v_imul, v_iand, v_ior, v_ixor, v_ishl, v_ishr, v_iushr, v_ineg, v_idiv, v_irem, v_ladd, v_lsub, v_lmul, v_lcmp, v_i2l, v_l2i, v_i2c, v_dup, v_dup2, v_if_eq, v_if_ne, v_if_lt, v_if_ge, v_if_gt, v_if_le, v_ic_eq, v_ic_ne, v_ic_lt, v_ic_ge, v_ic_gt, v_ic_le, v_goto, v_tsw, v_lsw, v_ireturn, v_areturn, v_return, v_iaload, v_laload, v_baload, v_caload, v_aaload, v_iastore, v_lastore, v_bastore, v_castore, v_alen, v_invvi, v_invst, v_invsp, e_int, e_lng, e_ref, e_lg0, e_lg1, e_lg2, e_lg3, e_lg4, e_lg5, e_lg6, e_lg7, e_lg8, e_lg9, e_lg10, e_lg11, e_lg12, e_lg13, e_clrI, e_clrJ, e_clrP, e_clrN, e_s0, e_s1, e_s2, e_s3, e_s4, e_s5, e_s6, e_s7, e_s8, e_s9, e_s10, e_s11, e_s12, e_s13, e_t0, e_t1, e_t2, e_t3, e_t4, e_t5, e_t6, e_t7, e_t8, e_t9, e_t10, e_t11, e_t12, e_t13, e_fd, e_kk, e_k0, e_k1, e_k2, e_k3, e_k4, e_k5, e_k6, e_k7, e_k8, e_k9, e_sv0, e_sv1, e_sv2, e_sv3, e_svc, e_pf0, e_pf1, e_pf2, e_pf3, e_ar, e_aa, e_al, e_sw1, e_sw2, e_ct0, e_ct1, e_ct2, e_cat0, e_cat1, e_rk0, e_rk1, e_rk2, e_inv0, e_inv1, e_inv2, e_inv3, e_inv4, e_inv5, e_inv6, e_o0, e_o1, e_cl, e_cle, e_cg, e_cge, e_ce, e_cr1, e_cr2, e_r, e_R, e_up, Int.cast_ofNat_Int, u_app, false_and, and_false, e_b0, e_b1, e_bn, e_bl, e_bu, Int.reduceLE, Int.reduceLT, Int.reduceEq, Int.reduceNeg, Int.reduceAdd, Int.reduceSub, Int.reduceMul, Nat.reduceLeDiff, Nat.reduceLT, Nat.reduceAdd, Nat.reduceEqDiff, true_and, and_true, true_or, or_true, false_or, or_false, forall_const, not_true_eq_false, not_false_eq_true, true_implies, false_implies, implies_true, and_self, zero_ne_one, one_ne_zero, eq_self, reduceIte, s_X11_workWay_0, b_X11_workWay_0, s_X11_workWay_23, b_X11_workWay_23, s_X11_workWay_32, b_X11_workWay_32, s_X11_workWay_35, b_X11_workWay_35, s_X11_workWay_44, b_X11_workWay_44, s_X11_workWay_70, b_X11_workWay_70, s_X11_workWay_84, b_X11_workWay_84, s_X11_workWay_96, b_X11_workWay_96, s_X11_workWay_100, b_X11_workWay_100, s_X11_workWay_103, b_X11_workWay_103, s_X11_workWay_110, b_X11_workWay_110, s_X11_workWay_116, b_X11_workWay_116, s_X11_workWay_119, b_X11_workWay_119, s_X11_workWay_124, b_X11_workWay_124, s_X11_workWay_130, b_X11_workWay_130, s_X11_workWay_138, b_X11_workWay_138, s_X11_workWay_189, b_X11_workWay_189, s_X11_workWay_200, b_X11_workWay_200, s_X11_workWay_218, b_X11_workWay_218, s_X11_workWay_232, b_X11_workWay_232, s_X11_workWay_235, b_X11_workWay_235, s_X11_workWay_260, b_X11_workWay_260, s_X11_workWay_264, b_X11_workWay_264, s_X11_workWay_273, b_X11_workWay_273, s_X11_workWay_295, b_X11_workWay_295, s_X11_workWay_314, b_X11_workWay_314, s_X11_workWay_332, b_X11_workWay_332, s_X11_workWay_338, b_X11_workWay_338, s_X11_workWay_341, b_X11_workWay_341, s_X11_workWay_344, b_X11_workWay_344, s_X11_workWay_353, b_X11_workWay_353, s_X11_workWay_356, b_X11_workWay_356, s_X11_workWay_365, b_X11_workWay_365, s_X11_workWay_389, b_X11_workWay_389, s_X11_workWay_394, b_X11_workWay_394, s_X11_workWay_410, b_X11_workWay_410, s_X11_workWay_419, b_X11_workWay_419, s_X11_workWay_425, b_X11_workWay_425, g_X11_36, g_X11_13, g_X11_7, g_X11_51, ld_X11_91, ld_X11_204, G_X11_workWay_189, sp_X11_at_e, G_X11_workWay_113, sp_X11_isCell_e, G_X11_workWay_186, sp_X11_set_e, G_X11_workWay_206, sp_X11_stepX_e, G_X11_workWay_209, sp_X11_stepY_e, G_X11_workWay_172, sp_X11_kept_e, e1, q1, q2]
    exact ⟨by omega, fun _ => hk f (fun _ _ => rfl) (fun u v _ _ a b => by omega), fun c => by omega⟩
  | succ d ih =>
    intro y f l6 h1 h2 hk
    obtain ⟨q1, q2, q3, q4, q5, q6, q7, q8⟩ := id H
    have e1 := fun f => (wr_rd (μ := μ) (b := b) (g := g) (f := f)).1
    refine hR 80 b_X11_workWay_344 344 _ _ _ o_X11_workWay_344 ?_
    simp only [v_opt_n, v_opt_s, v_nil, v_iconst, v_bipush, v_sipush, v_lconst0, v_lconst1, v_ldc, v_ldcw, v_ldc2, v_iload0, v_iload1, v_iload2, v_iload3, v_iload, v_lload0, v_lload1, v_lload2, v_lload3, v_lload, v_aload0, v_aload1, v_aload2, v_aload3, v_aload, v_istore0, v_istore1, v_istore2, v_istore3, v_istore, v_lstore0, v_lstore1, v_lstore2, v_lstore3, v_lstore, v_astore0, v_astore1, v_astore2, v_astore3, v_astore, v_iinc, v_iadd, v_isub, v_imul, v_iand, v_ior, v_ixor, v_ishl, v_ishr, v_iushr, v_ineg, v_idiv, v_irem, v_ladd, v_lsub, v_lmul, v_lcmp, v_i2l, v_l2i, v_i2c, v_dup, v_dup2, v_if_eq, v_if_ne, v_if_lt, v_if_ge, v_if_gt, v_if_le, v_ic_eq, v_ic_ne, v_ic_lt, v_ic_ge, v_ic_gt, v_ic_le, v_goto, v_tsw, v_lsw, v_ireturn, v_areturn, v_return, v_iaload, v_laload, v_baload, v_caload, v_aaload, v_iastore, v_lastore, v_bastore, v_castore, v_alen, v_invvi, v_invst, v_invsp, e_int, e_lng, e_ref, e_lg0, e_lg1, e_lg2, e_lg3, e_lg4, e_lg5, e_lg6, e_lg7, e_lg8, e_lg9, e_lg10, e_lg11, e_lg12, e_lg13, e_clrI, e_clrJ, e_clrP, e_clrN, e_s0, e_s1, e_s2, e_s3, e_s4, e_s5, e_s6, e_s7, e_s8, e_s9, e_s10, e_s11, e_s12, e_s13, e_t0, e_t1, e_t2, e_t3, e_t4, e_t5, e_t6, e_t7, e_t8, e_t9, e_t10, e_t11, e_t12, e_t13, e_fd, e_kk, e_k0, e_k1, e_k2, e_k3, e_k4, e_k5, e_k6, e_k7, e_k8, e_k9, e_sv0, e_sv1, e_sv2, e_sv3, e_svc, e_pf0, e_pf1, e_pf2, e_pf3, e_ar, e_aa, e_al, e_sw1, e_sw2, e_ct0, e_ct1, e_ct2, e_cat0, e_cat1, e_rk0, e_rk1, e_rk2, e_inv0, e_inv1, e_inv2, e_inv3, e_inv4, e_inv5, e_inv6, e_o0, e_o1, e_cl, e_cle, e_cg, e_cge, e_ce, e_cr1, e_cr2, e_r, e_R, e_up, Int.cast_ofNat_Int, u_app, false_and, and_false, e_b0, e_b1, e_bn, e_bl, e_bu, Int.reduceLE, Int.reduceLT, Int.reduceEq, Int.reduceNeg, Int.reduceAdd, Int.reduceSub, Int.reduceMul, Nat.reduceLeDiff, Nat.reduceLT, Nat.reduceAdd, Nat.reduceEqDiff, true_and, and_true, true_or, or_true, false_or, or_false, forall_const, not_true_eq_false, not_false_eq_true, true_implies, false_implies, implies_true, and_self, zero_ne_one, one_ne_zero, eq_self, reduceIte, s_X11_workWay_0, b_X11_workWay_0, s_X11_workWay_23, b_X11_workWay_23, s_X11_workWay_32, b_X11_workWay_32, s_X11_workWay_35, b_X11_workWay_35, s_X11_workWay_44, b_X11_workWay_44, s_X11_workWay_70, b_X11_workWay_70, s_X11_workWay_84, b_X11_workWay_84, s_X11_workWay_96, b_X11_workWay_96, s_X11_workWay_100, b_X11_workWay_100, s_X11_workWay_103, b_X11_workWay_103, s_X11_workWay_110, b_X11_workWay_110, s_X11_workWay_116, b_X11_workWay_116, s_X11_workWay_119, b_X11_workWay_119, s_X11_workWay_124, b_X11_workWay_124, s_X11_workWay_130, b_X11_workWay_130, s_X11_workWay_138, b_X11_workWay_138, s_X11_workWay_189, b_X11_workWay_189, s_X11_workWay_200, b_X11_workWay_200, s_X11_workWay_218, b_X11_workWay_218, s_X11_workWay_232, b_X11_workWay_232, s_X11_workWay_235, b_X11_workWay_235, s_X11_workWay_260, b_X11_workWay_260, s_X11_workWay_264, b_X11_workWay_264, s_X11_workWay_273, b_X11_workWay_273, s_X11_workWay_295, b_X11_workWay_295, s_X11_workWay_314, b_X11_workWay_314, s_X11_workWay_332, b_X11_workWay_332, s_X11_workWay_338, b_X11_workWay_338, s_X11_workWay_341, b_X11_workWay_341, s_X11_workWay_344, b_X11_workWay_344, s_X11_workWay_353, b_X11_workWay_353, s_X11_workWay_356, b_X11_workWay_356, s_X11_workWay_365, b_X11_workWay_365, s_X11_workWay_389, b_X11_workWay_389, s_X11_workWay_394, b_X11_workWay_394, s_X11_workWay_410, b_X11_workWay_410, s_X11_workWay_419, b_X11_workWay_419, s_X11_workWay_425, b_X11_workWay_425, g_X11_36, g_X11_13, g_X11_7, g_X11_51, ld_X11_91, ld_X11_204, G_X11_workWay_189, sp_X11_at_e, G_X11_workWay_113, sp_X11_isCell_e, G_X11_workWay_186, sp_X11_set_e, G_X11_workWay_206, sp_X11_stepX_e, G_X11_workWay_209, sp_X11_stepY_e, G_X11_workWay_172, sp_X11_kept_e, e1, q1, q2]
    refine ⟨by omega, fun c => by omega, fun c => ?_⟩
    refine ww_2x hR H hg ⟨h1, by omega⟩ w.toNat 0 f (by omega) (by omega) (fun l6 f' a1 a2 => ?_)
    refine ih (y + 1) f' l6 (by omega) (by omega) (fun f2 b1 b2 => hk f2 (fun j hj => ?_) (fun u v u1 u2 v1 v2 => ?_))
    · exact (b1 j (by omega)).trans (a1 j (by omega))
    · by_cases c9 : v = y
      · subst c9
        rw [b1 (12 * v + u) (by omega)]
        exact a2 u u1 u2
      · exact b2 u v u1 u2 (by omega) v2
set_option maxRecDepth 100000 in
set_option maxHeartbeats 4000000 in
theorem B_X11_workWay : q_Body cX11_workWay 12 u_X11_workWay fl_X11 ld_X11 G_X11_workWay q_T 4 s_X11_workWay sp_X11_workWay := by
  intro S Rt hR ra μ h
  obtain ⟨this, b, rfl, h⟩ := sp_X11_workWay_i h
  refine ⟨by simp [q_sl, q_ct], ?_⟩
  show S 0 [some (.inr (.inr this)), some (.inl b), none, none, none, none, none, none, none, none, none, none] [] μ
  obtain ⟨rfl, h1, h2, h3, h4, h5, h6, hk⟩ := h
  have H : ww_ok μ (μ 85 2) (μ 85 3) b (μ 92 (3 * b)) (μ 92 (3 * b + 1)) := ⟨rfl, rfl, h2, h1, h3, h4, h5, h6⟩
  refine hR 80 [] 0 _ _ _ rfl ?_
  simp only [v_opt_n, v_opt_s, v_nil, v_iconst, v_bipush, v_sipush, v_lconst0, v_lconst1, v_ldc, v_ldcw, v_ldc2, v_iload0, v_iload1, v_iload2, v_iload3, v_iload, v_lload0, v_lload1, v_lload2, v_lload3, v_lload, v_aload0, v_aload1, v_aload2, v_aload3, v_aload, v_istore0, v_istore1, v_istore2, v_istore3, v_istore, v_lstore0, v_lstore1, v_lstore2, v_lstore3, v_lstore, v_astore0, v_astore1, v_astore2, v_astore3, v_astore, v_iinc, v_iadd, v_isub, v_imul, v_iand, v_ior, v_ixor, v_ishl, v_ishr, v_iushr, v_ineg, v_idiv, v_irem, v_ladd, v_lsub, v_lmul, v_lcmp, v_i2l, v_l2i, v_i2c, v_dup, v_dup2, v_if_eq, v_if_ne, v_if_lt, v_if_ge, v_if_gt, v_if_le, v_ic_eq, v_ic_ne, v_ic_lt, v_ic_ge, v_ic_gt, v_ic_le, v_goto, v_tsw, v_lsw, v_ireturn, v_areturn, v_return, v_iaload, v_laload, v_baload, v_caload, v_aaload, v_iastore, v_lastore, v_bastore, v_castore, v_alen, v_invvi, v_invst, v_invsp, e_int, e_lng, e_ref, e_lg0, e_lg1, e_lg2, e_lg3, e_lg4, e_lg5, e_lg6, e_lg7, e_lg8, e_lg9, e_lg10, e_lg11, e_lg12, e_lg13, e_clrI, e_clrJ, e_clrP, e_clrN, e_s0, e_s1, e_s2, e_s3, e_s4, e_s5, e_s6, e_s7, e_s8, e_s9, e_s10, e_s11, e_s12, e_s13, e_t0, e_t1, e_t2, e_t3, e_t4, e_t5, e_t6, e_t7, e_t8, e_t9, e_t10, e_t11, e_t12, e_t13, e_fd, e_kk, e_k0, e_k1, e_k2, e_k3, e_k4, e_k5, e_k6, e_k7, e_k8, e_k9, e_sv0, e_sv1, e_sv2, e_sv3, e_svc, e_pf0, e_pf1, e_pf2, e_pf3, e_ar, e_aa, e_al, e_sw1, e_sw2, e_ct0, e_ct1, e_ct2, e_cat0, e_cat1, e_rk0, e_rk1, e_rk2, e_inv0, e_inv1, e_inv2, e_inv3, e_inv4, e_inv5, e_inv6, e_o0, e_o1, e_cl, e_cle, e_cg, e_cge, e_ce, e_cr1, e_cr2, e_r, e_R, e_up, Int.cast_ofNat_Int, u_app, false_and, and_false, e_b0, e_b1, e_bn, e_bl, e_bu, Int.reduceLE, Int.reduceLT, Int.reduceEq, Int.reduceNeg, Int.reduceAdd, Int.reduceSub, Int.reduceMul, Nat.reduceLeDiff, Nat.reduceLT, Nat.reduceAdd, Nat.reduceEqDiff, true_and, and_true, true_or, or_true, false_or, or_false, forall_const, not_true_eq_false, not_false_eq_true, true_implies, false_implies, implies_true, and_self, zero_ne_one, one_ne_zero, eq_self, reduceIte, s_X11_workWay_0, b_X11_workWay_0, s_X11_workWay_23, b_X11_workWay_23, s_X11_workWay_32, b_X11_workWay_32, s_X11_workWay_35, b_X11_workWay_35, s_X11_workWay_44, b_X11_workWay_44, s_X11_workWay_70, b_X11_workWay_70, s_X11_workWay_84, b_X11_workWay_84, s_X11_workWay_96, b_X11_workWay_96, s_X11_workWay_100, b_X11_workWay_100, s_X11_workWay_103, b_X11_workWay_103, s_X11_workWay_110, b_X11_workWay_110, s_X11_workWay_116, b_X11_workWay_116, s_X11_workWay_119, b_X11_workWay_119, s_X11_workWay_124, b_X11_workWay_124, s_X11_workWay_130, b_X11_workWay_130, s_X11_workWay_138, b_X11_workWay_138, s_X11_workWay_189, b_X11_workWay_189, s_X11_workWay_200, b_X11_workWay_200, s_X11_workWay_218, b_X11_workWay_218, s_X11_workWay_232, b_X11_workWay_232, s_X11_workWay_235, b_X11_workWay_235, s_X11_workWay_260, b_X11_workWay_260, s_X11_workWay_264, b_X11_workWay_264, s_X11_workWay_273, b_X11_workWay_273, s_X11_workWay_295, b_X11_workWay_295, s_X11_workWay_314, b_X11_workWay_314, s_X11_workWay_332, b_X11_workWay_332, s_X11_workWay_338, b_X11_workWay_338, s_X11_workWay_341, b_X11_workWay_341, s_X11_workWay_344, b_X11_workWay_344, s_X11_workWay_353, b_X11_workWay_353, s_X11_workWay_356, b_X11_workWay_356, s_X11_workWay_365, b_X11_workWay_365, s_X11_workWay_389, b_X11_workWay_389, s_X11_workWay_394, b_X11_workWay_394, s_X11_workWay_410, b_X11_workWay_410, s_X11_workWay_419, b_X11_workWay_419, s_X11_workWay_425, b_X11_workWay_425, g_X11_36, g_X11_13, g_X11_7, g_X11_51, ld_X11_91, ld_X11_204, G_X11_workWay_189, sp_X11_at_e, G_X11_workWay_113, sp_X11_isCell_e, G_X11_workWay_186, sp_X11_set_e, G_X11_workWay_206, sp_X11_stepX_e, G_X11_workWay_209, sp_X11_stepY_e, G_X11_workWay_172, sp_X11_kept_e, T_92]
  refine ⟨by omega, by omega, by omega, by omega, ?_⟩
  have hend : ww_end S μ (μ 85 2) (μ 85 3) b (μ 92 (3 * b)) (μ 92 (3 * b + 1)) := by
    intro g l6 l7 l8 l9 l10 hw hb
    have key := ww_2y hR (l7 := l7) (l8 := l8) (l9 := l9) (l10 := l10) H hb (μ 85 3).toNat 0 (fun i => q_blk μ 97 144 g 96 (144 * b + i)) l6 (by omega) (by omega) (fun f' a1 a2 => hk g f' (fun x y q => ?_))
    · rw [q_reg_of] at key
      exact key
    · rw [a2 x y q.1 q.2.1 q.2.2.1 q.2.2.2]
      have e : g (12 * y + x) = m_far (μ 85 2) (μ 85 3) (m_at μ (μ 92 (3 * b))) (m_at μ (μ 92 (3 * b + 1))) x y := m_isw_far hw q
      unfold m_way
      rw [e]
  have key := ww_1y hR H (μ 85 3).toNat 0 (μ 97) none (by omega) (by omega) (fun l5 g a1 a2 => ?_)
  · rw [q_blk_of] at key
    exact key
  · have hU := m_uf_b h2 g
    have hI : m_winv (μ 85 2) (μ 85 3) (m_at μ (μ 92 (3 * b))) (m_at μ (μ 92 (3 * b + 1))) g := by
      intro x y q
      have := a2 x y q.1 q.2.1 q.2.2.1 q.2.2.2
      by_cases c : m_src (m_at μ (μ 92 (3 * b))) (m_at μ (μ 92 (3 * b + 1))) x y
      · rw [this.1 c]
        exact ⟨Or.inr ⟨Int.le_refl _, 0, q, c, rfl⟩, fun _ => rfl, by omega⟩
      · rw [this.2 c]
        exact ⟨Or.inl rfl, fun q => absurd q c, by omega⟩
    have hS := m_sf_b (w := μ 85 2) (h := μ 85 3) g
    exact ww_wh hR H hend (m_s2 (μ 85 2) (μ 85 3) (m_uf g)).toNat (m_s2 (μ 85 2) (μ 85 3) (m_sf g)).toNat g l5 none none none none none hI (by omega) (by omega)
set_option maxRecDepth 100000 in
theorem C_X11_workWay {l : Launch} {ad : Int → Nat} {D : va_G} {cy : Nat → ClassId} {Z : State → Prop} (hZ : q_Zg ad Z) : q_Ct l q_T q_N ad D cy Z yX11_workWay cX11_workWay 12 none rm_X11_workWay sp_X11_workWay := by
  obtain ⟨hf, hg, hld⟩ := q_chkS k_X11_workWay
  refine q_met (rk := 4) q_wokT (by decide) rfl hf hg hld rfl (q_skS L_X11_workWay o_X11_workWay) ?_ ?_ ?_ ?_ B_X11_workWay
  · intro i hi; exact absurd hi List.not_mem_nil
  · intro i hi
    have hi : i = 189 ∨ i = 113 ∨ i = 186 := by simpa [u_X11_workWay] using hi
    rcases hi with rfl | rfl | rfl
    · exact q_crV hZ.1 (C_X11_at hZ) rv_X11_at cm_X11_at (by decide +kernel) (by decide +kernel) (by decide +kernel) (by decide +kernel) (by decide +kernel) ⟨rfl, rfl⟩ (by decide)
    · exact q_crV hZ.1 (C_X11_isCell hZ) rv_X11_isCell cm_X11_isCell (by decide +kernel) (by decide +kernel) (by decide +kernel) (by decide +kernel) (by decide +kernel) ⟨rfl, rfl⟩ (by decide)
    · exact q_crV hZ.1 (C_X11_set hZ) rv_X11_set cm_X11_set (by decide +kernel) (by decide +kernel) (by decide +kernel) (by decide +kernel) (by decide +kernel) ⟨rfl, rfl⟩ (by decide)
  · intro i hi
    have hi : i = 206 ∨ i = 209 ∨ i = 172 := by simpa [u_X11_workWay] using hi
    rcases hi with rfl | rfl | rfl
    · exact q_crS hZ.1 (C_X11_stepX hZ) cm_X11_stepX (by decide +kernel) (by decide +kernel) (by decide +kernel) (by decide +kernel) ⟨rfl, rfl⟩ (by decide)
    · exact q_crS hZ.1 (C_X11_stepY hZ) cm_X11_stepY (by decide +kernel) (by decide +kernel) (by decide +kernel) (by decide +kernel) ⟨rfl, rfl⟩ (by decide)
    · exact q_crS hZ.1 (C_X11_kept hZ) cm_X11_kept (by decide +kernel) (by decide +kernel) (by decide +kernel) (by decide +kernel) ⟨rfl, rfl⟩ (by decide)
  · intro i hi; exact absurd hi List.not_mem_nil
theorem rv_X11_workWay : q_rcv q_T yX11_workWay.cls sp_X11_workWay := by
  intro ra μ K h
  obtain ⟨this, b, rfl, h⟩ := sp_X11_workWay_i h
  obtain rfl := h.1
  exact ⟨[.inl b], 85, 11, _, _, rfl, T_85, rfl, rfl⟩
theorem cm_X11_workWay : Cond.code yX11_workWay cX11_workWay 12 none ∈ q_tb := by decide +kernel

