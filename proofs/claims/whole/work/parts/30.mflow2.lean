/-! the reference: workFlow -/
theorem m_fln_cg {w h : Int} {A A' : Int → Int → Int} (hA : ∀ u v : Int, m_in w h u v → A u v = A' u v) {x y : Int} (hxy : m_in w h x y) : ∀ n, m_fln w h A x y n = m_fln w h A' x y n
  | 0 => by
    show (A x y, (-1 : Int)) = (A' x y, -1)
    rw [hA x y hxy]
  | n + 1 => by
    show m_fls w h A x y (n : Int) (m_fln w h A x y n) = m_fls w h A' x y (n : Int) (m_fln w h A' x y n)
    rw [m_fln_cg hA hxy n]
    unfold m_fls
    by_cases c : m_in w h (x + m_sx n) (y + m_sy n)
    · rw [hA _ _ c]
    · rw [if_neg (fun q => c q.1), if_neg (fun q => c q.1)]
theorem m_dn_cg {w h : Int} {A A' : Int → Int → Int} (hA : ∀ u v : Int, m_in w h u v → A u v = A' u v) {x y : Int} (hxy : m_in w h x y) : m_dn w h A x y = m_dn w h A' x y := by
  unfold m_dn
  rw [m_fln_cg hA hxy]
def sp_X11_workFlow : QP := fun ra μ K => match ra with
  | [.inl b, .inr (.inr this)] => this = 85 ∧ (0 ≤ b ∧ b < 10) ∧ m_dim (μ 85 2) (μ 85 3) ∧ (0 ≤ μ 92 (3 * b) ∧ μ 92 (3 * b) < b) ∧ (∀ u v : Int, m_in (μ 85 2) (μ 85 3) u v → m_vr (μ 96 (144 * μ 92 (3 * b) + 12 * v + u))) ∧ (∀ g f : Int → Int, (∀ x y : Int, m_in (μ 85 2) (μ 85 3) x y → f (12 * y + x) = m_flow (μ 85 2) (μ 85 3) (m_at μ (μ 92 (3 * b))) x y) → K none (q_reg (q_blk μ 98 144 g) b f))
  | _ => False
theorem sp_X11_workFlow_e (this b : Int) (μ : QM) (K : Option QV → QM → Prop) : sp_X11_workFlow [.inl b, .inr (.inr this)] μ K = (this = 85 ∧ (0 ≤ b ∧ b < 10) ∧ m_dim (μ 85 2) (μ 85 3) ∧ (0 ≤ μ 92 (3 * b) ∧ μ 92 (3 * b) < b) ∧ (∀ u v : Int, m_in (μ 85 2) (μ 85 3) u v → m_vr (μ 96 (144 * μ 92 (3 * b) + 12 * v + u))) ∧ (∀ g f : Int → Int, (∀ x y : Int, m_in (μ 85 2) (μ 85 3) x y → f (12 * y + x) = m_flow (μ 85 2) (μ 85 3) (m_at μ (μ 92 (3 * b))) x y) → K none (q_reg (q_blk μ 98 144 g) b f))) := propext Iff.rfl
theorem sp_X11_workFlow_i {ra : List QV} {μ : QM} {K : Option QV → QM → Prop} (h : sp_X11_workFlow ra μ K) : ∃ this b : Int, ra = [.inl b, .inr (.inr this)] ∧ (this = 85 ∧ (0 ≤ b ∧ b < 10) ∧ m_dim (μ 85 2) (μ 85 3) ∧ (0 ≤ μ 92 (3 * b) ∧ μ 92 (3 * b) < b) ∧ (∀ u v : Int, m_in (μ 85 2) (μ 85 3) u v → m_vr (μ 96 (144 * μ 92 (3 * b) + 12 * v + u))) ∧ (∀ g f : Int → Int, (∀ x y : Int, m_in (μ 85 2) (μ 85 3) x y → f (12 * y + x) = m_flow (μ 85 2) (μ 85 3) (m_at μ (μ 92 (3 * b))) x y) → K none (q_reg (q_blk μ 98 144 g) b f))) := by
  unfold sp_X11_workFlow at h
  split at h
  · exact ⟨_, _, rfl, h⟩
  · exact h.elim
def rm_X11_workFlow : Room := { frames := 3, cells := 0, slots := 0, locals := 75 }
def G_X11_workFlow : Nat → Nat × QP := fun i => match i with
  | 189 => (4, sp_X11_at)
  | 186 => (5, sp_X11_set)
  | 212 => (4, sp_X11_flowOf)
  | _ => (0, fun _ _ _ => False)
theorem G_X11_workFlow_189 : G_X11_workFlow 189 = (4, sp_X11_at) := id rfl
theorem G_X11_workFlow_186 : G_X11_workFlow 186 = (5, sp_X11_set) := id rfl
theorem G_X11_workFlow_212 : G_X11_workFlow 212 = (4, sp_X11_flowOf) := id rfl
/-- what the loops take as given -/
def wf_ok (μ : QM) (w h b of : Int) : Prop := μ 85 2 = w ∧ μ 85 3 = h ∧ m_dim w h ∧ (0 ≤ b ∧ b < 10) ∧ (0 ≤ of ∧ of < b) ∧ (∀ u v : Int, m_in w h u v → m_vr (μ 96 (144 * of + 12 * v + u)))
theorem wf_rd {μ : QM} {w h b of : Int} (H : wf_ok μ w h b of) (g f : Int → Int) : q_reg (q_blk μ 98 144 g) b f 85 2 = w ∧ q_reg (q_blk μ 98 144 g) b f 85 3 = h ∧ (∀ x y : Int, m_in w h x y → q_reg (q_blk μ 98 144 g) b f 96 (144 * of + 12 * y + x) = μ 96 (144 * of + 12 * y + x)) := by
  obtain ⟨h1, h2, h3, h4, h5, h6⟩ := H
  refine ⟨?_, ?_, fun x y q => ?_⟩
  · simp only [u_reg, u_blk, Int.reduceEq, false_and, if_false]; exact h1
  · simp only [u_reg, u_blk, Int.reduceEq, false_and, if_false]; exact h2
  · simp only [u_reg, u_blk]
    rw [if_neg (by omega), if_neg (by omega)]
theorem wf_up {μ : QM} {b k j v : Int} {g f : Int → Int} (hk : 0 ≤ k ∧ k < 144) (hj : j = 144 * b + k) : q_up (q_reg (q_blk μ 98 144 g) b f) 96 j v = q_reg (q_blk μ 98 144 g) b (fun i => if i = k then v else f i) := q_reg_up hk hj
theorem wf_up2 {μ : QM} {b k v : Int} {g f : Int → Int} (hk : 0 ≤ k ∧ k < 144) : q_up (q_reg (q_blk μ 98 144 g) b f) 98 k v = q_reg (q_blk μ 98 144 (fun i => if i = k then v else g i)) b f := by
  rw [← q_blk_up hk.1 hk.2]
  funext a i
  simp only [u_app, u_reg]
  by_cases c : a = 98 ∧ i = k
  · rw [if_pos c, if_neg (by omega), if_pos c]
  · rw [if_neg c]
    by_cases c2 : a = 96 ∧ 144 * b ≤ i ∧ i < 144 * b + 144
    · rw [if_pos c2, if_pos c2]
    · rw [if_neg c2, if_neg c2, if_neg c]
theorem wf_dn {μ : QM} {w h b of : Int} (H : wf_ok μ w h b of) {x y : Int} (hxy : m_in w h x y) (g f : Int → Int) : m_dn w h (m_at (q_reg (q_blk μ 98 144 g) b f) of) x y = m_dn w h (m_at μ of) x y := m_dn_cg (fun u v q => (wf_rd H g f).2.2 u v q) hxy
set_option maxRecDepth 100000 in
set_option maxHeartbeats 4000000 in
theorem wf_1x {Rt : Option QV → QM → Prop} {S : Nat → QL → List QV → QM → Prop} (hR : q_Rule cX11_workFlow 6 u_X11_workFlow fl_X11 ld_X11 G_X11_workFlow q_T 4 s_X11_workFlow Rt S) {μ : QM} {w h b of y : Int} (H : wf_ok μ w h b of) (hy : 0 ≤ y ∧ y < h) :
    ∀ (d : Nat) (x : Int) (g f : Int → Int), 0 ≤ x → x + d = w → (∀ (l4 : Option QV) (g' f' : Int → Int), (∀ j : Int, (j < 12 * y + x ∨ 12 * y + w ≤ j) → g' j = g j ∧ f' j = f j) → (∀ u : Int, x ≤ u → u < w → f' (12 * y + u) = (if μ 96 (144 * of + 12 * y + u) = -2000000000 then -2000000000 else 0) ∧ g' (12 * y + u) = (if μ 96 (144 * of + 12 * y + u) = -2000000000 then -1 else m_dn w h (m_at μ of) u y)) → S 11 [some (.inr (.inr 85)), some (.inl b), some (.inl of), some (.inl (y + 1)), l4, none] [] (q_reg (q_blk μ 98 144 g') b f')) →
    S 22 [some (.inr (.inr 85)), some (.inl b), some (.inl of), some (.inl y), some (.inl x), none] [] (q_reg (q_blk μ 98 144 g) b f) := by
  intro d
  induction d with
  | zero =>
    intro x g f h1 h2 hk
    obtain ⟨e2, e3, eA⟩ := wf_rd H g f
    obtain ⟨q1, q2, q3, q4, q5, q6⟩ := H
    refine hR 80 b_X11_workFlow_22 22 _ _ _ o_X11_workFlow_22 ?_
    simp only [v_opt_n, v_opt_s, v_nil, v_iconst, v_bipush, v_sipush, v_lconst0, v_lconst1, v_ldc, v_ldcw, v_ldc2, v_iload0, v_iload1, v_iload2, v_iload3, v_iload, v_lload0, v_lload1, v_lload2, v_lload3, v_lload, v_aload0, v_aload1, v_aload2, v_aload3, v_aload, v_istore0, v_istore1, v_istore2, v_istore3, v_istore, v_lstore0, v_lstore1, v_lstore2, v_lstore3, v_lstore, v_astore0, v_astore1, v_astore2, v_astore3, v_astore, v_iinc, v_iadd, v_isub, v_imul, v_iand, v_ior, v_ixor, v_ishl, v_ishr, v_iushr, v_ineg, v_idiv, v_irem, v_ladd, v_lsub, v_lmul, v_lcmp, v_i2l, v_l2i, v_i2c, v_dup, v_dup2, v_if_eq, v_if_ne, v_if_lt, v_if_ge, v_if_gt, v_if_le, v_ic_eq, v_ic_ne, v_ic_lt, v_ic_ge, v_ic_gt, v_ic_le, v_goto, v_tsw, v_lsw, v_ireturn, v_areturn, v_return, v_iaload, v_laload, v_baload, v_caload, v_aaload, v_iastore, v_lastore, v_bastore, v_castore, v_alen, v_invvi, v_invst, v_invsp, e_int, e_lng, e_ref, e_lg0, e_lg1, e_lg2, e_lg3, e_lg4, e_lg5, e_lg6, e_lg7, e_lg8, e_lg9, e_lg10, e_lg11, e_lg12, e_lg13, e_clrI, e_clrJ, e_clrP, e_clrN, e_s0, e_s1, e_s2, e_s3, e_s4, e_s5, e_s6, e_s7, e_s8, e_s9, e_s10, e_s11, e_s12, e_s13, e_t0, e_t1, e_t2, e_t3, e_t4, e_t5, e_t6, e_t7, e_t8, e_t9, e_t10, e_t11, e_t12, e_t13, e_fd, e_kk, e_k0, e_k1, e_k2, e_k3, e_k4, e_k5, e_k6, e_k7, e_k8, e_k9, e_sv0, e_sv1, e_sv2, e_sv3, e_svc, e_pf0, e_pf1, e_pf2, e_pf3, e_ar, e_aa, e_al, e_sw1, e_sw2, e_ct0, e_ct1, e_ct2, e_cat0, e_cat1, e_rk0, e_rk1, e_rk2, e_inv0, e_inv1, e_inv2, e_inv3, e_inv4, e_inv5, e_inv6, e_o0, e_o1, e_cl, e_cle, e_cg, e_cge, e_ce, e_cr1, e_cr2, e_r, e_R, e_up, Int.cast_ofNat_Int, u_app, false_and, and_false, e_b0, e_b1, e_bn, e_bl, e_bu, Int.reduceLE, Int.reduceLT, Int.reduceEq, Int.reduceNeg, Int.reduceAdd, Int.reduceSub, Int.reduceMul, Nat.reduceLeDiff, Nat.reduceLT, Nat.reduceAdd, Nat.reduceEqDiff, true_and, and_true, true_or, or_true, false_or, or_false, forall_const, not_true_eq_false, not_false_eq_true, true_implies, false_implies, implies_true, and_self, zero_ne_one, one_ne_zero, eq_self, reduceIte, s_X11_workFlow_0, b_X11_workFlow_0, s_X11_workFlow_11, b_X11_workFlow_11, s_X11_workFlow_19, b_X11_workFlow_19, s_X11_workFlow_22, b_X11_workFlow_22, s_X11_workFlow_31, b_X11_workFlow_31, s_X11_workFlow_49, b_X11_workFlow_49, s_X11_workFlow_54, b_X11_workFlow_54, s_X11_workFlow_55, b_X11_workFlow_55, s_X11_workFlow_82, b_X11_workFlow_82, s_X11_workFlow_86, b_X11_workFlow_86, s_X11_workFlow_94, b_X11_workFlow_94, s_X11_workFlow_101, b_X11_workFlow_101, s_X11_workFlow_107, b_X11_workFlow_107, s_X11_workFlow_109, b_X11_workFlow_109, s_X11_workFlow_117, b_X11_workFlow_117, s_X11_workFlow_120, b_X11_workFlow_120, s_X11_workFlow_129, b_X11_workFlow_129, s_X11_workFlow_142, b_X11_workFlow_142, s_X11_workFlow_146, b_X11_workFlow_146, s_X11_workFlow_153, b_X11_workFlow_153, s_X11_workFlow_155, b_X11_workFlow_155, s_X11_workFlow_161, b_X11_workFlow_161, s_X11_workFlow_190, b_X11_workFlow_190, s_X11_workFlow_196, b_X11_workFlow_196, s_X11_workFlow_202, b_X11_workFlow_202, g_X11_36, g_X11_13, g_X11_7, g_X11_55, g_X11_48, ld_X11_91, G_X11_workFlow_189, sp_X11_at_e, G_X11_workFlow_186, sp_X11_set_e, G_X11_workFlow_212, sp_X11_flowOf_e, e2, e3]
    exact ⟨by omega, fun _ => hk _ g f (fun _ _ => ⟨rfl, rfl⟩) (fun u a b => by omega), fun c => by omega⟩
  | succ d ih =>
    intro x g f h1 h2 hk
    have hxy : m_in w h x y := ⟨h1, by omega, hy.1, hy.2⟩
    have e2 := fun g f => (wf_rd H g f).1
    have e3 := fun g f => (wf_rd H g f).2.1
    have eA := fun g f => (wf_rd H g f).2.2
    have eA1 := fun g f => (wf_rd H g f).2.2 x y hxy
    have eD := fun g f => wf_dn H hxy g f
    obtain ⟨q1, q2, q3, q4, q5, q6⟩ := id H
    have hv := q6 x y hxy
    have eU : ∀ (g f : Int → Int) (v : Int), q_up (q_reg (q_blk μ 98 144 g) b f) 96 (144 * b + 12 * y + x) v = q_reg (q_blk μ 98 144 g) b (fun i => if i = 12 * y + x then v else f i) := fun g f v => wf_up (by omega) (by omega)
    have eV : ∀ (g f : Int → Int) (v : Int), q_up (q_reg (q_blk μ 98 144 g) b f) 98 (12 * y + x) v = q_reg (q_blk μ 98 144 (fun i => if i = 12 * y + x then v else g i)) b f := fun g f v => wf_up2 (by omega)
    have next : ∀ v z : Int, v = (if μ 96 (144 * of + 12 * y + x) = -2000000000 then -2000000000 else 0) → z = (if μ 96 (144 * of + 12 * y + x) = -2000000000 then -1 else m_dn w h (m_at μ of) x y) → S 22 [some (.inr (.inr 85)), some (.inl b), some (.inl of), some (.inl y), some (.inl (x + 1)), none] [] (q_reg (q_blk μ 98 144 (fun i => if i = 12 * y + x then z else g i)) b (fun i => if i = 12 * y + x then v else f i)) := by
      intro v z ev ez
      refine ih (x + 1) _ _ (by omega) (by omega) (fun l4 g' f' a1 a2 => hk l4 g' f' (fun j hj => ?_) (fun u u1 u2 => ?_))
      · have := a1 j (by omega)
        rw [this.1, this.2]
        exact ⟨if_neg (by omega), if_neg (by omega)⟩
      · by_cases c : u = x
        · subst c
          have := a1 (12 * y + u) (by omega)
          rw [this.1, this.2, if_pos rfl, if_pos rfl]
          exact ⟨ev, ez⟩
        · exact a2 u (by omega) u2
    have hne : (144 * of + 12 * y + x = 144 * b + 12 * y + x) = False := eq_false (by omega)
    refine hR 120 b_X11_workFlow_22 22 _ _ _ o_X11_workFlow_22 ?_
    simp only [v_opt_n, v_opt_s, v_nil, v_iconst, v_bipush, v_sipush, v_lconst0, v_lconst1, v_ldc, v_ldcw, v_ldc2, v_iload0, v_iload1, v_iload2, v_iload3, v_iload, v_lload0, v_lload1, v_lload2, v_lload3, v_lload, v_aload0, v_aload1, v_aload2, v_aload3, v_aload, v_istore0, v_istore1, v_istore2, v_istore3, v_istore, v_lstore0, v_lstore1, v_lstore2, v_lstore3, v_lstore, v_astore0, v_astore1, v_astore2, v_astore3, v_astore, v_iinc, v_iadd, v_isub, v_imul, v_iand, v_ior, v_ixor, v_ishl, v_ishr, v_iushr, v_ineg, v_idiv, v_irem, v_ladd, v_lsub, v_lmul, v_lcmp, v_i2l, v_l2i, v_i2c, v_dup, v_dup2, v_if_eq, v_if_ne, v_if_lt, v_if_ge, v_if_gt, v_if_le, v_ic_eq, v_ic_ne, v_ic_lt, v_ic_ge, v_ic_gt, v_ic_le, v_goto, v_tsw, v_lsw, v_ireturn, v_areturn, v_return, v_iaload, v_laload, v_baload, v_caload, v_aaload, v_iastore, v_lastore, v_bastore, v_castore, v_alen, v_invvi, v_invst, v_invsp, e_int, e_lng, e_ref, e_lg0, e_lg1, e_lg2, e_lg3, e_lg4, e_lg5, e_lg6, e_lg7, e_lg8, e_lg9, e_lg10, e_lg11, e_lg12, e_lg13, e_clrI, e_clrJ, e_clrP, e_clrN, e_s0, e_s1, e_s2, e_s3, e_s4, e_s5, e_s6, e_s7, e_s8, e_s9, e_s10, e_s11, e_s12, e_s13, e_t0, e_t1, e_t2, e_t3, e_t4, e_t5, e_t6, e_t7, e_t8, e_t9, e_t10, e_t11, e_t12, e_t13, e_fd, e_kk, e_k0, e_k1, e_k2, e_k3, e_k4, e_k5, e_k6, e_k7, e_k8, e_k9, e_sv0, e_sv1, e_sv2, e_sv3, e_svc, e_pf0, e_pf1, e_pf2, e_pf3, e_ar, e_aa, e_al, e_sw1, e_sw2, e_ct0, e_ct1, e_ct2, e_cat0, e_cat1, e_rk0, e_rk1, e_rk2, e_inv0, e_inv1, e_inv2, e_inv3, e_inv4, e_inv5, e_inv6, e_o0, e_o1, e_cl, e_cle, e_cg, e_cge, e_ce, e_cr1, e_cr2, e_r, e_R, e_up, Int.cast_ofNat_Int, u_app, false_and, and_false, e_b0, e_b1, e_bn, e_bl, e_bu, Int.reduceLE, Int.reduceLT, Int.reduceEq, Int.reduceNeg, Int.reduceAdd, Int.reduceSub, Int.reduceMul, Nat.reduceLeDiff, Nat.reduceLT, Nat.reduceAdd, Nat.reduceEqDiff, true_and, and_true, true_or, or_true, false_or, or_false, forall_const, not_true_eq_false, not_false_eq_true, true_implies, false_implies, implies_true, and_self, zero_ne_one, one_ne_zero, eq_self, reduceIte, s_X11_workFlow_0, b_X11_workFlow_0, s_X11_workFlow_11, b_X11_workFlow_11, s_X11_workFlow_19, b_X11_workFlow_19, s_X11_workFlow_22, b_X11_workFlow_22, s_X11_workFlow_31, b_X11_workFlow_31, s_X11_workFlow_49, b_X11_workFlow_49, s_X11_workFlow_54, b_X11_workFlow_54, s_X11_workFlow_55, b_X11_workFlow_55, s_X11_workFlow_82, b_X11_workFlow_82, s_X11_workFlow_86, b_X11_workFlow_86, s_X11_workFlow_94, b_X11_workFlow_94, s_X11_workFlow_101, b_X11_workFlow_101, s_X11_workFlow_107, b_X11_workFlow_107, s_X11_workFlow_109, b_X11_workFlow_109, s_X11_workFlow_117, b_X11_workFlow_117, s_X11_workFlow_120, b_X11_workFlow_120, s_X11_workFlow_129, b_X11_workFlow_129, s_X11_workFlow_142, b_X11_workFlow_142, s_X11_workFlow_146, b_X11_workFlow_146, s_X11_workFlow_153, b_X11_workFlow_153, s_X11_workFlow_155, b_X11_workFlow_155, s_X11_workFlow_161, b_X11_workFlow_161, s_X11_workFlow_190, b_X11_workFlow_190, s_X11_workFlow_196, b_X11_workFlow_196, s_X11_workFlow_202, b_X11_workFlow_202, g_X11_36, g_X11_13, g_X11_7, g_X11_55, g_X11_48, ld_X11_91, G_X11_workFlow_189, sp_X11_at_e, G_X11_workFlow_186, sp_X11_set_e, G_X11_workFlow_212, sp_X11_flowOf_e, e2, e3, eA1, eD, eU, eV, T_98, hne]
    refine ⟨by omega, fun c => by omega, fun c => ⟨by omega, by omega, fun c1 => ⟨by omega, by omega, by omega, fun c2 => ⟨by omega, q3, hxy, fun u v q => by rw [if_neg (by omega), eA _ _ u v q]; exact q6 u v q, by omega, by omega, next _ _ (by rw [if_neg c1]) (by rw [if_neg c1])⟩, fun c2 => absurd c2 c1⟩, fun c1 => ⟨by omega, by omega, by omega, fun c2 => absurd c1 c2, fun c2 => ⟨by omega, by omega, next _ _ (by rw [if_pos c1]) (by rw [if_pos c1])⟩⟩⟩⟩
set_option maxRecDepth 100000 in
set_option maxHeartbeats 4000000 in
theorem wf_1y {Rt : Option QV → QM → Prop} {S : Nat → QL → List QV → QM → Prop} (hR : q_Rule cX11_workFlow 6 u_X11_workFlow fl_X11 ld_X11 G_X11_workFlow q_T 4 s_X11_workFlow Rt S) {μ : QM} {w h b of : Int} (H : wf_ok μ w h b of) :
    ∀ (d : Nat) (y : Int) (g f : Int → Int) (l4 : Option QV), 0 ≤ y → y + d = h → (∀ (l4 : Option QV) (g' f' : Int → Int), (∀ j : Int, j < 12 * y → g' j = g j ∧ f' j = f j) → (∀ u v : Int, 0 ≤ u → u < w → y ≤ v → v < h → f' (12 * v + u) = (if μ 96 (144 * of + 12 * v + u) = -2000000000 then -2000000000 else 0) ∧ g' (12 * v + u) = (if μ 96 (144 * of + 12 * v + u) = -2000000000 then -1 else m_dn w h (m_at μ of) u v)) → S 109 [some (.inr (.inr 85)), some (.inl b), some (.inl of), some (.inl 0), l4, none] [] (q_reg (q_blk μ 98 144 g') b f')) →
    S 11 [some (.inr (.inr 85)), some (.inl b), some (.inl of), some (.inl y), l4, none] [] (q_reg (q_blk μ 98 144 g) b f) := by
  intro d
  induction d with
  | zero =>
    intro y g f l4 h1 h2 hk
    obtain ⟨e2, e3, eA⟩ := wf_rd H g f
    obtain ⟨q1, q2, q3, q4, q5, q6⟩ := H
    refine hR 80 b_X11_workFlow_11 11 _ _ _ o_X11_workFlow_11 ?_
    simp only [v_opt_n, v_opt_s, v_nil, v_iconst, v_bipush, v_sipush, v_lconst0, v_lconst1, v_ldc, v_ldcw, v_ldc2, v_iload0, v_iload1, v_iload2, v_iload3, v_iload, v_lload0, v_lload1, v_lload2, v_lload3, v_lload, v_aload0, v_aload1, v_aload2, v_aload3, v_aload, v_istore0, v_istore1, v_istore2, v_istore3, v_istore, v_lstore0, v_lstore1, v_lstore2, v_lstore3, v_lstore, v_astore0, v_astore1, v_astore2, v_astore3, v_astore, v_iinc, v_iadd, v_isub, v_imul, v_iand, v_ior, v_ixor, v_ishl, v_ishr, v_iushr, v_ineg, v_idiv, v_irem, v_ladd, v_lsub, v_lmul, v_lcmp, v_i2l, v_l2i, v_i2c, v_dup, v_dup2, v_if_eq, v_if_ne, v_if_lt, v_if_ge, v_if_gt, v_if_le, v_ic_eq, v_ic_ne, v_ic_lt, v_ic_ge, v_ic_gt, v_ic_le, v_goto, v_tsw, v_lsw, v_ireturn, v_areturn, v_return, v_iaload, v_laload, v_baload, v_caload, v_aaload, v_iastore, v_lastore, v_bastore, v_castore, v_alen, v_invvi, v_invst, v_invsp, e_int, e_lng, e_ref, e_lg0, e_lg1, e_lg2, e_lg3, e_lg4, e_lg5, e_lg6, e_lg7, e_lg8, e_lg9, e_lg10, e_lg11, e_lg12, e_lg13, e_clrI, e_clrJ, e_clrP, e_clrN, e_s0, e_s1, e_s2, e_s3, e_s4, e_s5, e_s6, e_s7, e_s8, e_s9, e_s10, e_s11, e_s12, e_s13, e_t0, e_t1, e_t2, e_t3, e_t4, e_t5, e_t6, e_t7, e_t8, e_t9, e_t10, e_t11, e_t12, e_t13, e_fd, e_kk, e_k0, e_k1, e_k2, e_k3, e_k4, e_k5, e_k6, e_k7, e_k8, e_k9, e_sv0, e_sv1, e_sv2, e_sv3, e_svc, e_pf0, e_pf1, e_pf2, e_pf3, e_ar, e_aa, e_al, e_sw1, e_sw2, e_ct0, e_ct1, e_ct2, e_cat0, e_cat1, e_rk0, e_rk1, e_rk2, e_inv0, e_inv1, e_inv2, e_inv3, e_inv4, e_inv5, e_inv6, e_o0, e_o1, e_cl, e_cle, e_cg, e_cge, e_ce, e_cr1, e_cr2, e_r, e_R, e_up, Int.cast_ofNat_Int, u_app, false_and, and_false, e_b0, e_b1, e_bn, e_bl, e_bu, Int.reduceLE, Int.reduceLT, Int.reduceEq, Int.reduceNeg, Int.reduceAdd, Int.reduceSub, Int.reduceMul, Nat.reduceLeDiff, Nat.reduceLT, Nat.reduceAdd, Nat.reduceEqDiff, true_and, and_true, true_or, or_true, false_or, or_false, forall_const, not_true_eq_false, not_false_eq_true, true_implies, false_implies, implies_true, and_self, zero_ne_one, one_ne_zero, eq_self, reduceIte, s_X11_workFlow_0, b_X11_workFlow_0, s_X11_workFlow_11, b_X11_workFlow_11, s_X11_workFlow_19, b_X11_workFlow_19, s_X11_workFlow_22, b_X11_workFlow_22, s_X11_workFlow_31, b_X11_workFlow_31, s_X11_workFlow_49, b_X11_workFlow_49, s_X11_workFlow_54, b_X11_workFlow_54, s_X11_workFlow_55, b_X11_workFlow_55, s_X11_workFlow_82, b_X11_workFlow_82, s_X11_workFlow_86, b_X11_workFlow_86, s_X11_workFlow_94, b_X11_workFlow_94, s_X11_workFlow_101, b_X11_workFlow_101, s_X11_workFlow_107, b_X11_workFlow_107, s_X11_workFlow_109, b_X11_workFlow_109, s_X11_workFlow_117, b_X11_workFlow_117, s_X11_workFlow_120, b_X11_workFlow_120, s_X11_workFlow_129, b_X11_workFlow_129, s_X11_workFlow_142, b_X11_workFlow_142, s_X11_workFlow_146, b_X11_workFlow_146, s_X11_workFlow_153, b_X11_workFlow_153, s_X11_workFlow_155, b_X11_workFlow_155, s_X11_workFlow_161, b_X11_workFlow_161, s_X11_workFlow_190, b_X11_workFlow_190, s_X11_workFlow_196, b_X11_workFlow_196, s_X11_workFlow_202, b_X11_workFlow_202, g_X11_36, g_X11_13, g_X11_7, g_X11_55, g_X11_48, ld_X11_91, G_X11_workFlow_189, sp_X11_at_e, G_X11_workFlow_186, sp_X11_set_e, G_X11_workFlow_212, sp_X11_flowOf_e, e2, e3]
    exact ⟨by omega, fun _ => hk _ g f (fun _ _ => ⟨rfl, rfl⟩) (fun u v _ _ a b => by omega), fun c => by omega⟩
  | succ d ih =>
    intro y g f l4 h1 h2 hk
    obtain ⟨e2, e3, eA⟩ := wf_rd H g f
    obtain ⟨q1, q2, q3, q4, q5, q6⟩ := id H
    refine hR 80 b_X11_workFlow_11 11 _ _ _ o_X11_workFlow_11 ?_
    simp only [v_opt_n, v_opt_s, v_nil, v_iconst, v_bipush, v_sipush, v_lconst0, v_lconst1, v_ldc, v_ldcw, v_ldc2, v_iload0, v_iload1, v_iload2, v_iload3, v_iload, v_lload0, v_lload1, v_lload2, v_lload3, v_lload, v_aload0, v_aload1, v_aload2, v_aload3, v_aload, v_istore0, v_istore1, v_istore2, v_istore3, v_istore, v_lstore0, v_lstore1, v_lstore2, v_lstore3, v_lstore, v_astore0, v_astore1, v_astore2, v_astore3, v_astore, v_iinc, v_iadd, v_isub, v_imul, v_iand, v_ior, v_ixor, v_ishl, v_ishr, v_iushr, v_ineg, v_idiv, v_irem, v_ladd, v_lsub, v_lmul, v_lcmp, v_i2l, v_l2i, v_i2c, v_dup, v_dup2, v_if_eq, v_if_ne, v_if_lt, v_if_ge, v_if_gt, v_if_le, v_ic_eq, v_ic_ne, v_ic_lt, v_ic_ge, v_ic_gt, v_ic_le, v_goto, v_tsw, v_lsw, v_ireturn, v_areturn, v_return, v_iaload, v_laload, v_baload, v_caload, v_aaload, v_iastore, v_lastore, v_bastore, v_castore, v_alen, v_invvi, v_invst, v_invsp, e_int, e_lng, e_ref, e_lg0, e_lg1, e_lg2, e_lg3, e_lg4, e_lg5, e_lg6, e_lg7, e_lg8, e_lg9, e_lg10, e_lg11, e_lg12, e_lg13, e_clrI, e_clrJ, e_clrP, e_clrN, e_s0, e_s1, e_s2, e_s3, e_s4, e_s5, e_s6, e_s7, e_s8, e_s9, e_s10, e_s11, e_s12, e_s13, e_t0, e_t1, e_t2, e_t3, e_t4, e_t5, e_t6, e_t7, e_t8, e_t9, e_t10, e_t11, e_t12, e_t13, e_fd, e_kk, e_k0, e_k1, e_k2, e_k3, e_k4, e_k5, e_k6, e_k7, e_k8, e_k9, e_sv0, e_sv1, e_sv2, e_sv3, e_svc, e_pf0, e_pf1, e_pf2, e_pf3, e_ar, e_aa, e_al, e_sw1, e_sw2, e_ct0, e_ct1, e_ct2, e_cat0, e_cat1, e_rk0, e_rk1, e_rk2, e_inv0, e_inv1, e_inv2, e_inv3, e_inv4, e_inv5, e_inv6, e_o0, e_o1, e_cl, e_cle, e_cg, e_cge, e_ce, e_cr1, e_cr2, e_r, e_R, e_up, Int.cast_ofNat_Int, u_app, false_and, and_false, e_b0, e_b1, e_bn, e_bl, e_bu, Int.reduceLE, Int.reduceLT, Int.reduceEq, Int.reduceNeg, Int.reduceAdd, Int.reduceSub, Int.reduceMul, Nat.reduceLeDiff, Nat.reduceLT, Nat.reduceAdd, Nat.reduceEqDiff, true_and, and_true, true_or, or_true, false_or, or_false, forall_const, not_true_eq_false, not_false_eq_true, true_implies, false_implies, implies_true, and_self, zero_ne_one, one_ne_zero, eq_self, reduceIte, s_X11_workFlow_0, b_X11_workFlow_0, s_X11_workFlow_11, b_X11_workFlow_11, s_X11_workFlow_19, b_X11_workFlow_19, s_X11_workFlow_22, b_X11_workFlow_22, s_X11_workFlow_31, b_X11_workFlow_31, s_X11_workFlow_49, b_X11_workFlow_49, s_X11_workFlow_54, b_X11_workFlow_54, s_X11_workFlow_55, b_X11_workFlow_55, s_X11_workFlow_82, b_X11_workFlow_82, s_X11_workFlow_86, b_X11_workFlow_86, s_X11_workFlow_94, b_X11_workFlow_94, s_X11_workFlow_101, b_X11_workFlow_101, s_X11_workFlow_107, b_X11_workFlow_107, s_X11_workFlow_109, b_X11_workFlow_109, s_X11_workFlow_117, b_X11_workFlow_117, s_X11_workFlow_120, b_X11_workFlow_120, s_X11_workFlow_129, b_X11_workFlow_129, s_X11_workFlow_142, b_X11_workFlow_142, s_X11_workFlow_146, b_X11_workFlow_146, s_X11_workFlow_153, b_X11_workFlow_153, s_X11_workFlow_155, b_X11_workFlow_155, s_X11_workFlow_161, b_X11_workFlow_161, s_X11_workFlow_190, b_X11_workFlow_190, s_X11_workFlow_196, b_X11_workFlow_196, s_X11_workFlow_202, b_X11_workFlow_202, g_X11_36, g_X11_13, g_X11_7, g_X11_55, g_X11_48, ld_X11_91, G_X11_workFlow_189, sp_X11_at_e, G_X11_workFlow_186, sp_X11_set_e, G_X11_workFlow_212, sp_X11_flowOf_e, e2, e3]
    refine ⟨by omega, fun c => by omega, fun c => ?_⟩
    refine wf_1x hR H ⟨h1, by omega⟩ w.toNat 0 g f (by omega) (by omega) (fun l4 g' f' a1 a2 => ?_)
    refine ih (y + 1) g' f' l4 (by omega) (by omega) (fun l4 g2 f2 b1 b2 => hk l4 g2 f2 (fun j hj => ?_) (fun u v u1 u2 v1 v2 => ?_))
    · have p1 := b1 j (by omega)
      have p2 := a1 j (by omega)
      exact ⟨p1.1.trans p2.1, p1.2.trans p2.2⟩
    · by_cases c9 : v = y
      · subst c9
        have p1 := b1 (12 * v + u) (by omega)
        have p2 := a2 u u1 u2
        rw [p1.1, p1.2]
        exact p2
      · exact b2 u v u1 u2 (by omega) v2
theorem m_sm_cg {g g' : Int → Int} : ∀ (d : Nat) (u : Int), (∀ i : Int, u ≤ i → i < u + d → g i = g' i) → m_sm g d u = m_sm g' d u
  | 0, _, _ => rfl
  | d + 1, u, hg => by
    show g u + m_sm g d (u + 1) = g' u + m_sm g' d (u + 1)
    rw [hg u (by omega) (by omega), m_sm_cg d (u + 1) (fun i a b => hg i (by omega) (by omega))]
theorem m_sm_z {g : Int → Int} : ∀ (d : Nat) (u : Int), (∀ i : Int, u ≤ i → i < u + d → g i = 0) → m_sm g d u = 0
  | 0, _, _ => rfl
  | d + 1, u, hg => by
    show g u + m_sm g d (u + 1) = 0
    rw [hg u (by omega) (by omega), m_sm_z d (u + 1) (fun i a b => hg i (by omega) (by omega))]
    rfl
theorem m_hit_gap {w h : Int} {A : Int → Int → Int} {x y : Int} (hd : m_dim w h) (hxy : m_in w h x y) (hg : A x y = -2000000000) : m_sm (fun v => m_sm (fun u => m_hit w h A u v (12 * y + x)) w.toNat 0) h.toNat 0 = 0 := by
  refine m_sm_z _ _ (fun v v1 v2 => m_sm_z _ _ (fun u u1 u2 => ?_))
  show m_hit w h A u v (12 * y + x) = 0
  unfold m_hit
  split
  · rfl
  · rename_i c
    have q1 : (12 * v + u) % 12 = u := by omega
    have q2 : (12 * v + u) / 12 = v := by omega
    have q3 : (12 * y + x) % 12 = x := by omega
    have q4 : (12 * y + x) / 12 = y := by omega
    refine m_ind_f ?_
    rintro ⟨n, e⟩
    rcases m_itr_le (A := A) hd n (12 * v + u) ⟨by omega, by rw [q1, q2]; omega, by rw [q1, q2]; exact c⟩ with r | ⟨r, -⟩
    · omega
    · rw [e] at r
      have := r.2.2
      rw [q3, q4] at this
      exact this hg
/-- the flows lie as they must -/
def wf_g (μ : QM) (w h of : Int) (g : Int → Int) : Prop := ∀ u v : Int, m_in w h u v → g (12 * v + u) = (if μ 96 (144 * of + 12 * v + u) = -2000000000 then -1 else m_dn w h (m_at μ of) u v)
theorem wf_rd2 {μ : QM} {b k : Int} {g f : Int → Int} (hk : 0 ≤ k ∧ k < 144) : q_reg (q_blk μ 98 144 g) b f 98 k = g k ∧ q_reg (q_blk μ 98 144 g) b f 96 (144 * b + k) = f k := by
  refine ⟨?_, ?_⟩
  · simp only [u_reg, u_blk, Int.reduceEq, false_and, if_false, true_and]
    rw [if_pos hk]
  · simp only [u_reg, true_and]
    rw [if_pos (show 144 * b ≤ 144 * b + k ∧ 144 * b + k < 144 * b + 144 by omega), show 144 * b + k - 144 * b = k by omega]
set_option maxRecDepth 100000 in
set_option maxHeartbeats 4000000 in
theorem wf_2k {Rt : Option QV → QM → Prop} {S : Nat → QL → List QV → QM → Prop} (hR : q_Rule cX11_workFlow 6 u_X11_workFlow fl_X11 ld_X11 G_X11_workFlow q_T 4 s_X11_workFlow Rt S) {μ : QM} {w h b of x y : Int} {g : Int → Int} (H : wf_ok μ w h b of) (hg : wf_g μ w h of g) :
    ∀ (n : Nat) (k : Int) (f : Int → Int), ((k = -1 ∧ 0 < n) ∨ (m_kv w h (m_at μ of) k ∧ μ 96 (144 * of + k) + 2000000001 < n)) → (∀ (l5 : Option QV) (f' : Int → Int), (∀ j : Int, 0 ≤ j → f' j = f j + m_ind (∃ n, m_itr (m_dk w h (m_at μ of)) n k = j)) → S 120 [some (.inr (.inr 85)), some (.inl b), some (.inl of), some (.inl y), some (.inl (x + 1)), l5] [] (q_reg (q_blk μ 98 144 g) b f')) →
    S 155 [some (.inr (.inr 85)), some (.inl b), some (.inl of), some (.inl y), some (.inl x), some (.inl k)] [] (q_reg (q_blk μ 98 144 g) b f) := by
  intro n
  induction n with
  | zero =>
    intro k f h1 hk
    rcases h1 with h1 | ⟨h1, h2⟩
    · omega
    · obtain ⟨q1, q2, q3, q4, q5, q6⟩ := id H
      have hkd : 144 * of + 12 * (k / 12) + k % 12 = 144 * of + k := by omega
      have h3 := q6 _ _ h1.2.1
      have h4 : ¬ μ 96 (144 * of + 12 * (k / 12) + k % 12) = -2000000000 := h1.2.2
      rw [hkd] at h3 h4
      omega
  | succ n ih =>
    intro k f h1 hk
    obtain ⟨q1, q2, q3, q4, q5, q6⟩ := id H
    rcases h1 with h1 | ⟨h1, h2⟩
    · obtain ⟨rfl, -⟩ := h1
      refine hR 80 b_X11_workFlow_155 155 _ _ _ o_X11_workFlow_155 ?_
      simp only [v_opt_n, v_opt_s, v_nil, v_iconst, v_bipush, v_sipush, v_lconst0, v_lconst1, v_ldc, v_ldcw, v_ldc2, v_iload0, v_iload1, v_iload2, v_iload3, v_iload, v_lload0, v_lload1, v_lload2, v_lload3, v_lload, v_aload0, v_aload1, v_aload2, v_aload3, v_aload, v_istore0, v_istore1, v_istore2, v_istore3, v_istore, v_lstore0, v_lstore1, v_lstore2, v_lstore3, v_lstore, v_astore0, v_astore1, v_astore2, v_astore3, v_astore, v_iinc, v_iadd, v_isub, v_imul, v_iand, v_ior, v_ixor, v_ishl, v_ishr, v_iushr, v_ineg, v_idiv, v_irem, v_ladd, v_lsub, v_lmul, v_lcmp, v_i2l, v_l2i, v_i2c, v_dup, v_dup2, v_if_eq, v_if_ne, v_if_lt, v_if_ge, v_if_gt, v_if_le, v_ic_eq, v_ic_ne, v_ic_lt, v_ic_ge, v_ic_gt, v_ic_le, v_goto, v_tsw, v_lsw, v_ireturn, v_areturn, v_return, v_iaload, v_laload, v_baload, v_caload, v_aaload, v_iastore, v_lastore, v_bastore, v_castore, v_alen, v_invvi, v_invst, v_invsp, e_int, e_lng, e_ref, e_lg0, e_lg1, e_lg2, e_lg3, e_lg4, e_lg5, e_lg6, e_lg7, e_lg8, e_lg9, e_lg10, e_lg11, e_lg12, e_lg13, e_clrI, e_clrJ, e_clrP, e_clrN, e_s0, e_s1, e_s2, e_s3, e_s4, e_s5, e_s6, e_s7, e_s8, e_s9, e_s10, e_s11, e_s12, e_s13, e_t0, e_t1, e_t2, e_t3, e_t4, e_t5, e_t6, e_t7, e_t8, e_t9, e_t10, e_t11, e_t12, e_t13, e_fd, e_kk, e_k0, e_k1, e_k2, e_k3, e_k4, e_k5, e_k6, e_k7, e_k8, e_k9, e_sv0, e_sv1, e_sv2, e_sv3, e_svc, e_pf0, e_pf1, e_pf2, e_pf3, e_ar, e_aa, e_al, e_sw1, e_sw2, e_ct0, e_ct1, e_ct2, e_cat0, e_cat1, e_rk0, e_rk1, e_rk2, e_inv0, e_inv1, e_inv2, e_inv3, e_inv4, e_inv5, e_inv6, e_o0, e_o1, e_cl, e_cle, e_cg, e_cge, e_ce, e_cr1, e_cr2, e_r, e_R, e_up, Int.cast_ofNat_Int, u_app, false_and, and_false, e_b0, e_b1, e_bn, e_bl, e_bu, Int.reduceLE, Int.reduceLT, Int.reduceEq, Int.reduceNeg, Int.reduceAdd, Int.reduceSub, Int.reduceMul, Nat.reduceLeDiff, Nat.reduceLT, Nat.reduceAdd, Nat.reduceEqDiff, true_and, and_true, true_or, or_true, false_or, or_false, forall_const, not_true_eq_false, not_false_eq_true, true_implies, false_implies, implies_true, and_self, zero_ne_one, one_ne_zero, eq_self, reduceIte, s_X11_workFlow_0, b_X11_workFlow_0, s_X11_workFlow_11, b_X11_workFlow_11, s_X11_workFlow_19, b_X11_workFlow_19, s_X11_workFlow_22, b_X11_workFlow_22, s_X11_workFlow_31, b_X11_workFlow_31, s_X11_workFlow_49, b_X11_workFlow_49, s_X11_workFlow_54, b_X11_workFlow_54, s_X11_workFlow_55, b_X11_workFlow_55, s_X11_workFlow_82, b_X11_workFlow_82, s_X11_workFlow_86, b_X11_workFlow_86, s_X11_workFlow_94, b_X11_workFlow_94, s_X11_workFlow_101, b_X11_workFlow_101, s_X11_workFlow_107, b_X11_workFlow_107, s_X11_workFlow_109, b_X11_workFlow_109, s_X11_workFlow_117, b_X11_workFlow_117, s_X11_workFlow_120, b_X11_workFlow_120, s_X11_workFlow_129, b_X11_workFlow_129, s_X11_workFlow_142, b_X11_workFlow_142, s_X11_workFlow_146, b_X11_workFlow_146, s_X11_workFlow_153, b_X11_workFlow_153, s_X11_workFlow_155, b_X11_workFlow_155, s_X11_workFlow_161, b_X11_workFlow_161, s_X11_workFlow_190, b_X11_workFlow_190, s_X11_workFlow_196, b_X11_workFlow_196, s_X11_workFlow_202, b_X11_workFlow_202, g_X11_36, g_X11_13, g_X11_7, g_X11_55, g_X11_48, ld_X11_91, G_X11_workFlow_189, sp_X11_at_e, G_X11_workFlow_186, sp_X11_set_e, G_X11_workFlow_212, sp_X11_flowOf_e]
      refine hk _ f (fun j hj => ?_)
      rw [m_ind_f, Int.add_zero]
      rintro ⟨n, e⟩
      rw [m_itr_m1] at e
      omega
    · have h0 := h1.1
      have h5 := h1.2.1
      have hkr : 0 ≤ k ∧ k < 144 := by omega
      have hkd : 144 * of + 12 * (k / 12) + k % 12 = 144 * of + k := by omega
      have h4 : ¬ μ 96 (144 * of + 12 * (k / 12) + k % 12) = -2000000000 := h1.2.2
      have eg : g k = m_dk w h (m_at μ of) k := by
        have := hg (k % 12) (k / 12) h5
        rw [if_neg h4, show 12 * (k / 12) + k % 12 = k by omega] at this
        exact this
      have e1 := fun f => (wf_rd2 (μ := μ) (b := b) (g := g) (f := f) hkr).1
      have e2 := fun f => (wf_rd2 (μ := μ) (b := b) (g := g) (f := f) hkr).2
      have eU : ∀ (f : Int → Int) (v : Int), q_up (q_reg (q_blk μ 98 144 g) b f) 96 (144 * b + k) v = q_reg (q_blk μ 98 144 g) b (fun i => if i = k then v else f i) := fun f v => wf_up hkr rfl
      have hdn := m_dk_ok (w := w) (h := h) (A := m_at μ of) (k := k) q3
      refine hR 80 b_X11_workFlow_155 155 _ _ _ o_X11_workFlow_155 ?_
      simp only [v_opt_n, v_opt_s, v_nil, v_iconst, v_bipush, v_sipush, v_lconst0, v_lconst1, v_ldc, v_ldcw, v_ldc2, v_iload0, v_iload1, v_iload2, v_iload3, v_iload, v_lload0, v_lload1, v_lload2, v_lload3, v_lload, v_aload0, v_aload1, v_aload2, v_aload3, v_aload, v_istore0, v_istore1, v_istore2, v_istore3, v_istore, v_lstore0, v_lstore1, v_lstore2, v_lstore3, v_lstore, v_astore0, v_astore1, v_astore2, v_astore3, v_astore, v_iinc, v_iadd, v_isub, v_imul, v_iand, v_ior, v_ixor, v_ishl, v_ishr, v_iushr, v_ineg, v_idiv, v_irem, v_ladd, v_lsub, v_lmul, v_lcmp, v_i2l, v_l2i, v_i2c, v_dup, v_dup2, v_if_eq, v_if_ne, v_if_lt, v_if_ge, v_if_gt, v_if_le, v_ic_eq, v_ic_ne, v_ic_lt, v_ic_ge, v_ic_gt, v_ic_le, v_goto, v_tsw, v_lsw, v_ireturn, v_areturn, v_return, v_iaload, v_laload, v_baload, v_caload, v_aaload, v_iastore, v_lastore, v_bastore, v_castore, v_alen, v_invvi, v_invst, v_invsp, e_int, e_lng, e_ref, e_lg0, e_lg1, e_lg2, e_lg3, e_lg4, e_lg5, e_lg6, e_lg7, e_lg8, e_lg9, e_lg10, e_lg11, e_lg12, e_lg13, e_clrI, e_clrJ, e_clrP, e_clrN, e_s0, e_s1, e_s2, e_s3, e_s4, e_s5, e_s6, e_s7, e_s8, e_s9, e_s10, e_s11, e_s12, e_s13, e_t0, e_t1, e_t2, e_t3, e_t4, e_t5, e_t6, e_t7, e_t8, e_t9, e_t10, e_t11, e_t12, e_t13, e_fd, e_kk, e_k0, e_k1, e_k2, e_k3, e_k4, e_k5, e_k6, e_k7, e_k8, e_k9, e_sv0, e_sv1, e_sv2, e_sv3, e_svc, e_pf0, e_pf1, e_pf2, e_pf3, e_ar, e_aa, e_al, e_sw1, e_sw2, e_ct0, e_ct1, e_ct2, e_cat0, e_cat1, e_rk0, e_rk1, e_rk2, e_inv0, e_inv1, e_inv2, e_inv3, e_inv4, e_inv5, e_inv6, e_o0, e_o1, e_cl, e_cle, e_cg, e_cge, e_ce, e_cr1, e_cr2, e_r, e_R, e_up, Int.cast_ofNat_Int, u_app, false_and, and_false, e_b0, e_b1, e_bn, e_bl, e_bu, Int.reduceLE, Int.reduceLT, Int.reduceEq, Int.reduceNeg, Int.reduceAdd, Int.reduceSub, Int.reduceMul, Nat.reduceLeDiff, Nat.reduceLT, Nat.reduceAdd, Nat.reduceEqDiff, true_and, and_true, true_or, or_true, false_or, or_false, forall_const, not_true_eq_false, not_false_eq_true, true_implies, false_implies, implies_true, and_self, zero_ne_one, one_ne_zero, eq_self, reduceIte, s_X11_workFlow_0, b_X11_workFlow_0, s_X11_workFlow_11, b_X11_workFlow_11, s_X11_workFlow_19, b_X11_workFlow_19, s_X11_workFlow_22, b_X11_workFlow_22, s_X11_workFlow_31, b_X11_workFlow_31, s_X11_workFlow_49, b_X11_workFlow_49, s_X11_workFlow_54, b_X11_workFlow_54, s_X11_workFlow_55, b_X11_workFlow_55, s_X11_workFlow_82, b_X11_workFlow_82, s_X11_workFlow_86, b_X11_workFlow_86, s_X11_workFlow_94, b_X11_workFlow_94, s_X11_workFlow_101, b_X11_workFlow_101, s_X11_workFlow_107, b_X11_workFlow_107, s_X11_workFlow_109, b_X11_workFlow_109, s_X11_workFlow_117, b_X11_workFlow_117, s_X11_workFlow_120, b_X11_workFlow_120, s_X11_workFlow_129, b_X11_workFlow_129, s_X11_workFlow_142, b_X11_workFlow_142, s_X11_workFlow_146, b_X11_workFlow_146, s_X11_workFlow_153, b_X11_workFlow_153, s_X11_workFlow_155, b_X11_workFlow_155, s_X11_workFlow_161, b_X11_workFlow_161, s_X11_workFlow_190, b_X11_workFlow_190, s_X11_workFlow_196, b_X11_workFlow_196, s_X11_workFlow_202, b_X11_workFlow_202, g_X11_36, g_X11_13, g_X11_7, g_X11_55, g_X11_48, ld_X11_91, G_X11_workFlow_189, sp_X11_at_e, G_X11_workFlow_186, sp_X11_set_e, G_X11_workFlow_212, sp_X11_flowOf_e, e1, e2, eU, T_96, T_98]
      refine ⟨by omega, fun c => by omega, fun c => ⟨by omega, by omega, by omega, by omega, ?_⟩⟩
      rw [eg]
      refine ⟨by omega, by omega, ih _ _ ?_ (fun l5 f' hf => hk l5 f' (fun j hj => ?_))⟩
      · rcases hdn with q | ⟨p1, p2⟩
        · exact Or.inl ⟨q, by
            have h3 := q6 _ _ h5
            rw [hkd] at h3 h4
            omega⟩
        · have p3 : μ 96 (144 * of + 12 * (m_dk w h (m_at μ of) k / 12) + m_dk w h (m_at μ of) k % 12) < μ 96 (144 * of + 12 * (k / 12) + k % 12) := p2
          have p4 := p1.2.1
          have p5 := p1.1
          rw [hkd, show 144 * of + 12 * (m_dk w h (m_at μ of) k / 12) + m_dk w h (m_at μ of) k % 12 = 144 * of + m_dk w h (m_at μ of) k by omega] at p3
          exact Or.inr ⟨p1, by omega⟩
      · rw [hf j hj, m_ind_step q3 h1 hj]
        by_cases c9 : j = k
        · subst c9
          rw [if_pos rfl, if_pos rfl]; omega
        · rw [if_neg c9, if_neg c9]; omega
set_option maxRecDepth 100000 in
set_option maxHeartbeats 4000000 in
theorem wf_2x {Rt : Option QV → QM → Prop} {S : Nat → QL → List QV → QM → Prop} (hR : q_Rule cX11_workFlow 6 u_X11_workFlow fl_X11 ld_X11 G_X11_workFlow q_T 4 s_X11_workFlow Rt S) {μ : QM} {w h b of y : Int} {g : Int → Int} (H : wf_ok μ w h b of) (hg : wf_g μ w h of g) (hy : 0 ≤ y ∧ y < h) :
    ∀ (d : Nat) (x : Int) (f : Int → Int) (l5 : Option QV), 0 ≤ x → x + d = w → (∀ (l4 l5 : Option QV) (f' : Int → Int), (∀ j : Int, 0 ≤ j → f' j = f j + m_sm (fun u => m_hit w h (m_at μ of) u y j) d x) → S 109 [some (.inr (.inr 85)), some (.inl b), some (.inl of), some (.inl (y + 1)), l4, l5] [] (q_reg (q_blk μ 98 144 g) b f')) →
    S 120 [some (.inr (.inr 85)), some (.inl b), some (.inl of), some (.inl y), some (.inl x), l5] [] (q_reg (q_blk μ 98 144 g) b f) := by
  intro d
  induction d with
  | zero =>
    intro x f l5 h1 h2 hk
    obtain ⟨e2, e3, eA⟩ := wf_rd H g f
    obtain ⟨q1, q2, q3, q4, q5, q6⟩ := H
    refine hR 80 b_X11_workFlow_120 120 _ _ _ o_X11_workFlow_120 ?_
    simp only [v_opt_n, v_opt_s, v_nil, v_iconst, v_bipush, v_sipush, v_lconst0, v_lconst1, v_ldc, v_ldcw, v_ldc2, v_iload0, v_iload1, v_iload2, v_iload3, v_iload, v_lload0, v_lload1, v_lload2, v_lload3, v_lload, v_aload0, v_aload1, v_aload2, v_aload3, v_aload, v_istore0, v_istore1, v_istore2, v_istore3, v_istore, v_lstore0, v_lstore1, v_lstore2, v_lstore3, v_lstore, v_astore0, v_astore1, v_astore2, v_astore3, v_astore, v_iinc, v_iadd, v_isub, v_imul, v_iand, v_ior, v_ixor, v_ishl, v_ishr, v_iushr, v_ineg, v_idiv, v_irem, v_ladd, v_lsub, v_lmul, v_lcmp, v_i2l, v_l2i, v_i2c, v_dup, v_dup2, v_if_eq, v_if_ne, v_if_lt, v_if_ge, v_if_gt, v_if_le, v_ic_eq, v_ic_ne, v_ic_lt, v_ic_ge, v_ic_gt, v_ic_le, v_goto, v_tsw, v_lsw, v_ireturn, v_areturn, v_return, v_iaload, v_laload, v_baload, v_caload, v_aaload, v_iastore, v_lastore, v_bastore, v_castore, v_alen, v_invvi, v_invst, v_invsp, e_int, e_lng, e_ref, e_lg0, e_lg1, e_lg2, e_lg3, e_lg4, e_lg5, e_lg6, e_lg7, e_lg8, e_lg9, e_lg10, e_lg11, e_lg12, e_lg13, e_clrI, e_clrJ, e_clrP, e_clrN, e_s0, e_s1, e_s2, e_s3, e_s4, e_s5, e_s6, e_s7, e_s8, e_s9, e_s10, e_s11, e_s12, e_s13, e_t0, e_t1, e_t2, e_t3, e_t4, e_t5, e_t6, e_t7, e_t8, e_t9, e_t10, e_t11, e_t12, e_t13, e_fd, e_kk, e_k0, e_k1, e_k2, e_k3, e_k4, e_k5, e_k6, e_k7, e_k8, e_k9, e_sv0, e_sv1, e_sv2, e_sv3, e_svc, e_pf0, e_pf1, e_pf2, e_pf3, e_ar, e_aa, e_al, e_sw1, e_sw2, e_ct0, e_ct1, e_ct2, e_cat0, e_cat1, e_rk0, e_rk1, e_rk2, e_inv0, e_inv1, e_inv2, e_inv3, e_inv4, e_inv5, e_inv6, e_o0, e_o1, e_cl, e_cle, e_cg, e_cge, e_ce, e_cr1, e_cr2, e_r, e_R, e_up, Int.cast_ofNat_Int, u_app, false_and, and_false, e_b0, e_b1, e_bn, e_bl, e_bu, Int.reduceLE, Int.reduceLT, Int.reduceEq, Int.reduceNeg, Int.reduceAdd, Int.reduceSub, Int.reduceMul, Nat.reduceLeDiff, Nat.reduceLT, Nat.reduceAdd, Nat.reduceEqDiff, true_and, and_true, true_or, or_true, false_or, or_false, forall_const, not_true_eq_false, not_false_eq_true, true_implies, false_implies, implies_true, and_self, zero_ne_one, one_ne_zero, eq_self, reduceIte, s_X11_workFlow_0, b_X11_workFlow_0, s_X11_workFlow_11, b_X11_workFlow_11, s_X11_workFlow_19, b_X11_workFlow_19, s_X11_workFlow_22, b_X11_workFlow_22, s_X11_workFlow_31, b_X11_workFlow_31, s_X11_workFlow_49, b_X11_workFlow_49, s_X11_workFlow_54, b_X11_workFlow_54, s_X11_workFlow_55, b_X11_workFlow_55, s_X11_workFlow_82, b_X11_workFlow_82, s_X11_workFlow_86, b_X11_workFlow_86, s_X11_workFlow_94, b_X11_workFlow_94, s_X11_workFlow_101, b_X11_workFlow_101, s_X11_workFlow_107, b_X11_workFlow_107, s_X11_workFlow_109, b_X11_workFlow_109, s_X11_workFlow_117, b_X11_workFlow_117, s_X11_workFlow_120, b_X11_workFlow_120, s_X11_workFlow_129, b_X11_workFlow_129, s_X11_workFlow_142, b_X11_workFlow_142, s_X11_workFlow_146, b_X11_workFlow_146, s_X11_workFlow_153, b_X11_workFlow_153, s_X11_workFlow_155, b_X11_workFlow_155, s_X11_workFlow_161, b_X11_workFlow_161, s_X11_workFlow_190, b_X11_workFlow_190, s_X11_workFlow_196, b_X11_workFlow_196, s_X11_workFlow_202, b_X11_workFlow_202, g_X11_36, g_X11_13, g_X11_7, g_X11_55, g_X11_48, ld_X11_91, G_X11_workFlow_189, sp_X11_at_e, G_X11_workFlow_186, sp_X11_set_e, G_X11_workFlow_212, sp_X11_flowOf_e, e2, e3]
    exact ⟨by omega, fun _ => hk _ _ f (fun j _ => (Int.add_zero _).symm), fun c => by omega⟩
  | succ d ih =>
    intro x f l5 h1 h2 hk
    have hxy : m_in w h x y := ⟨h1, by omega, hy.1, hy.2⟩
    obtain ⟨e2, e3, eA⟩ := wf_rd H g f
    have eA1 := eA x y hxy
    obtain ⟨q1, q2, q3, q4, q5, q6⟩ := id H
    have hv := q6 x y hxy
    have d1 : (12 * y + x) % 12 = x := by omega
    have d2 : (12 * y + x) / 12 = y := by omega
    refine hR 80 b_X11_workFlow_120 120 _ _ _ o_X11_workFlow_120 ?_
    simp only [v_opt_n, v_opt_s, v_nil, v_iconst, v_bipush, v_sipush, v_lconst0, v_lconst1, v_ldc, v_ldcw, v_ldc2, v_iload0, v_iload1, v_iload2, v_iload3, v_iload, v_lload0, v_lload1, v_lload2, v_lload3, v_lload, v_aload0, v_aload1, v_aload2, v_aload3, v_aload, v_istore0, v_istore1, v_istore2, v_istore3, v_istore, v_lstore0, v_lstore1, v_lstore2, v_lstore3, v_lstore, v_astore0, v_astore1, v_astore2, v_astore3, v_astore, v_iinc, v_iadd, v_isub, v_imul, v_iand, v_ior, v_ixor, v_ishl, v_ishr, v_iushr, v_ineg, v_idiv, v_irem, v_ladd, v_lsub, v_lmul, v_lcmp, v_i2l, v_l2i, v_i2c, v_dup, v_dup2, v_if_eq, v_if_ne, v_if_lt, v_if_ge, v_if_gt, v_if_le, v_ic_eq, v_ic_ne, v_ic_lt, v_ic_ge, v_ic_gt, v_ic_le, v_goto, v_tsw, v_lsw, v_ireturn, v_areturn, v_return, v_iaload, v_laload, v_baload, v_caload, v_aaload, v_iastore, v_lastore, v_bastore, v_castore, v_alen, v_invvi, v_invst, v_invsp, e_int, e_lng, e_ref, e_lg0, e_lg1, e_lg2, e_lg3, e_lg4, e_lg5, e_lg6, e_lg7, e_lg8, e_lg9, e_lg10, e_lg11, e_lg12, e_lg13, e_clrI, e_clrJ, e_clrP, e_clrN, e_s0, e_s1, e_s2, e_s3, e_s4, e_s5, e_s6, e_s7, e_s8, e_s9, e_s10, e_s11, e_s12, e_s13, e_t0, e_t1, e_t2, e_t3, e_t4, e_t5, e_t6, e_t7, e_t8, e_t9, e_t10, e_t11, e_t12, e_t13, e_fd, e_kk, e_k0, e_k1, e_k2, e_k3, e_k4, e_k5, e_k6, e_k7, e_k8, e_k9, e_sv0, e_sv1, e_sv2, e_sv3, e_svc, e_pf0, e_pf1, e_pf2, e_pf3, e_ar, e_aa, e_al, e_sw1, e_sw2, e_ct0, e_ct1, e_ct2, e_cat0, e_cat1, e_rk0, e_rk1, e_rk2, e_inv0, e_inv1, e_inv2, e_inv3, e_inv4, e_inv5, e_inv6, e_o0, e_o1, e_cl, e_cle, e_cg, e_cge, e_ce, e_cr1, e_cr2, e_r, e_R, e_up, Int.cast_ofNat_Int, u_app, false_and, and_false, e_b0, e_b1, e_bn, e_bl, e_bu, Int.reduceLE, Int.reduceLT, Int.reduceEq, Int.reduceNeg, Int.reduceAdd, Int.reduceSub, Int.reduceMul, Nat.reduceLeDiff, Nat.reduceLT, Nat.reduceAdd, Nat.reduceEqDiff, true_and, and_true, true_or, or_true, false_or, or_false, forall_const, not_true_eq_false, not_false_eq_true, true_implies, false_implies, implies_true, and_self, zero_ne_one, one_ne_zero, eq_self, reduceIte, s_X11_workFlow_0, b_X11_workFlow_0, s_X11_workFlow_11, b_X11_workFlow_11, s_X11_workFlow_19, b_X11_workFlow_19, s_X11_workFlow_22, b_X11_workFlow_22, s_X11_workFlow_31, b_X11_workFlow_31, s_X11_workFlow_49, b_X11_workFlow_49, s_X11_workFlow_54, b_X11_workFlow_54, s_X11_workFlow_55, b_X11_workFlow_55, s_X11_workFlow_82, b_X11_workFlow_82, s_X11_workFlow_86, b_X11_workFlow_86, s_X11_workFlow_94, b_X11_workFlow_94, s_X11_workFlow_101, b_X11_workFlow_101, s_X11_workFlow_107, b_X11_workFlow_107, s_X11_workFlow_109, b_X11_workFlow_109, s_X11_workFlow_117, b_X11_workFlow_117, s_X11_workFlow_120, b_X11_workFlow_120, s_X11_workFlow_129, b_X11_workFlow_129, s_X11_workFlow_142, b_X11_workFlow_142, s_X11_workFlow_146, b_X11_workFlow_146, s_X11_workFlow_153, b_X11_workFlow_153, s_X11_workFlow_155, b_X11_workFlow_155, s_X11_workFlow_161, b_X11_workFlow_161, s_X11_workFlow_190, b_X11_workFlow_190, s_X11_workFlow_196, b_X11_workFlow_196, s_X11_workFlow_202, b_X11_workFlow_202, g_X11_36, g_X11_13, g_X11_7, g_X11_55, g_X11_48, ld_X11_91, G_X11_workFlow_189, sp_X11_at_e, G_X11_workFlow_186, sp_X11_set_e, G_X11_workFlow_212, sp_X11_flowOf_e, e2, e3, eA1]
    refine ⟨by omega, fun c => by omega, fun c => ⟨by omega, by omega, fun c1 => ?_, fun c1 => ?_⟩⟩
    · refine wf_2k hR H hg (μ 96 (144 * of + (12 * y + x)) + 2000000002).toNat (12 * y + x) f (Or.inr ⟨⟨by omega, by rw [d1, d2]; exact hxy, by rw [d1, d2]; exact c1⟩, ?_⟩) (fun l5 f' hf => ?_)
      · rw [show 144 * of + (12 * y + x) = 144 * of + 12 * y + x by omega]
        omega
      · refine ih (x + 1) f' l5 (by omega) (by omega) (fun l4 l5 f2 hf2 => hk l4 l5 f2 (fun j hj => ?_))
        rw [hf2 j hj, hf j hj]
        show f j + m_ind (∃ n, m_itr (m_dk w h (m_at μ of)) n (12 * y + x) = j) + m_sm (fun u => m_hit w h (m_at μ of) u y j) d (x + 1) = f j + (m_hit w h (m_at μ of) x y j + m_sm (fun u => m_hit w h (m_at μ of) u y j) d (x + 1))
        have : m_hit w h (m_at μ of) x y j = m_ind (∃ n, m_itr (m_dk w h (m_at μ of)) n (12 * y + x) = j) := by
          unfold m_hit
          exact if_neg c1
        rw [this]
        omega
    · refine wf_2k hR H hg 1 (-1) f (Or.inl ⟨rfl, by omega⟩) (fun l5 f' hf => ?_)
      refine ih (x + 1) f' l5 (by omega) (by omega) (fun l4 l5 f2 hf2 => hk l4 l5 f2 (fun j hj => ?_))
      rw [hf2 j hj, hf j hj]
      show f j + m_ind (∃ n, m_itr (m_dk w h (m_at μ of)) n (-1) = j) + m_sm (fun u => m_hit w h (m_at μ of) u y j) d (x + 1) = f j + (m_hit w h (m_at μ of) x y j + m_sm (fun u => m_hit w h (m_at μ of) u y j) d (x + 1))
      have : m_hit w h (m_at μ of) x y j = 0 := by
        unfold m_hit
        exact if_pos c1
      rw [this, m_ind_f]
      · omega
      · rintro ⟨n, e⟩
        rw [m_itr_m1] at e
        omega
set_option maxRecDepth 100000 in
set_option maxHeartbeats 4000000 in
theorem wf_2y {Rt : Option QV → QM → Prop} {S : Nat → QL → List QV → QM → Prop} (hR : q_Rule cX11_workFlow 6 u_X11_workFlow fl_X11 ld_X11 G_X11_workFlow q_T 4 s_X11_workFlow Rt S) {μ : QM} {w h b of : Int} {g : Int → Int} (H : wf_ok μ w h b of) (hg : wf_g μ w h of g) :
    ∀ (d : Nat) (y : Int) (f : Int → Int) (l4 l5 : Option QV), 0 ≤ y → y + d = h → (∀ (f' : Int → Int), (∀ j : Int, 0 ≤ j → f' j = f j + m_sm (fun v => m_sm (fun u => m_hit w h (m_at μ of) u v j) w.toNat 0) d y) → Rt none (q_reg (q_blk μ 98 144 g) b f')) →
    S 109 [some (.inr (.inr 85)), some (.inl b), some (.inl of), some (.inl y), l4, l5] [] (q_reg (q_blk μ 98 144 g) b f) := by
  intro d
  induction d with
  | zero =>
    intro y f l4 l5 h1 h2 hk
    obtain ⟨e2, e3, eA⟩ := wf_rd H g f
    obtain ⟨q1, q2, q3, q4, q5, q6⟩ := H
    refine hR 80 b_X11_workFlow_109 109 _ _ _ o_X11_workFlow_109 ?_
    simp only [v_opt_n, v_opt_s, v_nil, v_iconst, v_bipush, v_sipush, v_lconst0, v_lconst1, v_ldc, v_ldcw, v_ldc2, v_iload0, v_iload1, v_iload2, v_iload3, v_iload, v_lload0, v_lload1, v_lload2, v_lload3, v_lload, v_aload0, v_aload1, v_aload2, v_aload3, v_aload, v_istore0, v_istore1, v_istore2, v_istore3, v_istore, v_lstore0, v_lstore1, v_lstore2, v_lstore3, v_lstore, v_astore0, v_astore1, v_astore2, v_astore3, v_astore, v_iinc, v_iadd, v_isub, v_imul, v_iand, v_ior, v_ixor, v_ishl, v_ishr, v_iushr, v_ineg, v_idiv, v_irem, v_ladd, v_lsub, v_lmul, v_lcmp, v_i2l, v_l2i, v_i2c, v_dup, v_dup2, v_if_eq, v_if_ne, v_if_lt, v_if_ge, v_if_gt, v_if_le, v_ic_eq, v_ic_ne, v_ic_lt, v_ic_ge, v_ic_gt, v_ic_le, v_goto, v_tsw, v_lsw, v_ireturn, v_areturn, v_return, v_iaload, v_laload, v_baload, v_caload, v_aaload, v_iastore, v_lastore, v_bastore, v_castore, v_alen, v_invvi, v_invst, v_invsp, e_int, e_lng, e_ref, e_lg0, e_lg1, e_lg2, e_lg3, e_lg4, e_lg5, e_lg6, e_lg7, e_lg8, e_lg9, e_lg10, e_lg11, e_lg12, e_lg13, e_clrI, e_clrJ, e_clrP, e_clrN, e_s0, e_s1, e_s2, e_s3, e_s4, e_s5, e_s6, e_s7, e_s8, e_s9, e_s10, e_s11, e_s12, e_s13, e_t0, e_t1, e_t2, e_t3, e_t4, e_t5, e_t6, e_t7, e_t8, e_t9, e_t10, e_t11, e_t12, e_t13, e_fd, e_kk, e_k0, e_k1, e_k2, e_k3, e_k4, e_k5, e_k6, e_k7, e_k8, e_k9, e_sv0, e_sv1, e_sv2, e_sv3, e_svc, e_pf0, e_pf1, e_pf2, e_pf3, e_ar, e_aa, e_al, e_sw1, e_sw2, e_ct0, e_ct1, e_ct2, e_cat0, e_cat1, e_rk0, e_rk1, e_rk2, e_inv0, e_inv1, e_inv2, e_inv3, e_inv4, e_inv5, e_inv6, e_o0, e_o1, e_cl, e_cle, e_cg, e_cge, e_ce, e_cr1, e_cr2, e_r, e_R, e_up, Int.cast_ofNat_Int, u_app, false_and, and_false, e_b0, e_b1, e_bn, e_bl, e_bu, Int.reduceLE, Int.reduceLT, Int.reduceEq, Int.reduceNeg, Int.reduceAdd, Int.reduceSub, Int.reduceMul, Nat.reduceLeDiff, Nat.reduceLT, Nat.reduceAdd, Nat.reduceEqDiff, true_and, and_true, true_or, or_true, false_or, or_false, forall_const, not_true_eq_false, not_false_eq_true, true_implies, false_implies, implies_true, and_self, zero_ne_one, one_ne_zero, eq_self, reduceIte, s_X11_workFlow_0, b_X11_workFlow_0, s_X11_workFlow_11, b_X11_workFlow_11, s_X11_workFlow_19, b_X11_workFlow_19, s_X11_workFlow_22, b_X11_workFlow_22, s_X11_workFlow_31, b_X11_workFlow_31, s_X11_workFlow_49, b_X11_workFlow_49, s_X11_workFlow_54, b_X11_workFlow_54, s_X11_workFlow_55, b_X11_workFlow_55, s_X11_workFlow_82, b_X11_workFlow_82, s_X11_workFlow_86, b_X11_workFlow_86, s_X11_workFlow_94, b_X11_workFlow_94, s_X11_workFlow_101, b_X11_workFlow_101, s_X11_workFlow_107, b_X11_workFlow_107, s_X11_workFlow_109, b_X11_workFlow_109, s_X11_workFlow_117, b_X11_workFlow_117, s_X11_workFlow_120, b_X11_workFlow_120, s_X11_workFlow_129, b_X11_workFlow_129, s_X11_workFlow_142, b_X11_workFlow_142, s_X11_workFlow_146, b_X11_workFlow_146, s_X11_workFlow_153, b_X11_workFlow_153, s_X11_workFlow_155, b_X11_workFlow_155, s_X11_workFlow_161, b_X11_workFlow_161, s_X11_workFlow_190, b_X11_workFlow_190, s_X11_workFlow_196, b_X11_workFlow_196, s_X11_workFlow_202, b_X11_workFlow_202, g_X11_36, g_X11_13, g_X11_7, g_X11_55, g_X11_48, ld_X11_91, G_X11_workFlow_189, sp_X11_at_e, G_X11_workFlow_186, sp_X11_set_e, G_X11_workFlow_212, sp_X11_flowOf_e, e2, e3]
    exact ⟨by omega, fun _ => hk f (fun j _ => (Int.add_zero _).symm), fun c => by omega⟩
  | succ d ih =>
    intro y f l4 l5 h1 h2 hk
    obtain ⟨e2, e3, eA⟩ := wf_rd H g f
    obtain ⟨q1, q2, q3, q4, q5, q6⟩ := id H
    refine hR 80 b_X11_workFlow_109 109 _ _ _ o_X11_workFlow_109 ?_
    simp only [v_opt_n, v_opt_s, v_nil, v_iconst, v_bipush, v_sipush, v_lconst0, v_lconst1, v_ldc, v_ldcw, v_ldc2, v_iload0, v_iload1, v_iload2, v_iload3, v_iload, v_lload0, v_lload1, v_lload2, v_lload3, v_lload, v_aload0, v_aload1, v_aload2, v_aload3, v_aload, v_istore0, v_istore1, v_istore2, v_istore3, v_istore, v_lstore0, v_lstore1, v_lstore2, v_lstore3, v_lstore, v_astore0, v_astore1, v_astore2, v_astore3, v_astore, v_iinc, v_iadd, v_isub, v_imul, v_iand, v_ior, v_ixor, v_ishl, v_ishr, v_iushr, v_ineg, v_idiv, v_irem, v_ladd, v_lsub, v_lmul, v_lcmp, v_i2l, v_l2i, v_i2c, v_dup, v_dup2, v_if_eq, v_if_ne, v_if_lt, v_if_ge, v_if_gt, v_if_le, v_ic_eq, v_ic_ne, v_ic_lt, v_ic_ge, v_ic_gt, v_ic_le, v_goto, v_tsw, v_lsw, v_ireturn, v_areturn, v_return, v_iaload, v_laload, v_baload, v_caload, v_aaload, v_iastore, v_lastore, v_bastore, v_castore, v_alen, v_invvi, v_invst, v_invsp, e_int, e_lng, e_ref, e_lg0, e_lg1, e_lg2, e_lg3, e_lg4, e_lg5, e_lg6, e_lg7, e_lg8, e_lg9, e_lg10, e_lg11, e_lg12, e_lg13, e_clrI, e_clrJ, e_clrP, e_clrN, e_s0, e_s1, e_s2, e_s3, e_s4, e_s5, e_s6, e_s7, e_s8, e_s9, e_s10, e_s11, e_s12, e_s13, e_t0, e_t1, e_t2, e_t3, e_t4, e_t5, e_t6, e_t7, e_t8, e_t9, e_t10, e_t11, e_t12, e_t13, e_fd, e_kk, e_k0, e_k1, e_k2, e_k3, e_k4, e_k5, e_k6, e_k7, e_k8, e_k9, e_sv0, e_sv1, e_sv2, e_sv3, e_svc, e_pf0, e_pf1, e_pf2, e_pf3, e_ar, e_aa, e_al, e_sw1, e_sw2, e_ct0, e_ct1, e_ct2, e_cat0, e_cat1, e_rk0, e_rk1, e_rk2, e_inv0, e_inv1, e_inv2, e_inv3, e_inv4, e_inv5, e_inv6, e_o0, e_o1, e_cl, e_cle, e_cg, e_cge, e_ce, e_cr1, e_cr2, e_r, e_R, e_up, Int.cast_ofNat_Int, u_app, false_and, and_false, e_b0, e_b1, e_bn, e_bl, e_bu, Int.reduceLE, Int.reduceLT, Int.reduceEq, Int.reduceNeg, Int.reduceAdd, Int.reduceSub, Int.reduceMul, Nat.reduceLeDiff, Nat.reduceLT, Nat.reduceAdd, Nat.reduceEqDiff, true_and, and_true, true_or, or_true, false_or, or_false, forall_const, not_true_eq_false, not_false_eq_true, true_implies, false_implies, implies_true, and_self, zero_ne_one, one_ne_zero, eq_self, reduceIte, s_X11_workFlow_0, b_X11_workFlow_0, s_X11_workFlow_11, b_X11_workFlow_11, s_X11_workFlow_19, b_X11_workFlow_19, s_X11_workFlow_22, b_X11_workFlow_22, s_X11_workFlow_31, b_X11_workFlow_31, s_X11_workFlow_49, b_X11_workFlow_49, s_X11_workFlow_54, b_X11_workFlow_54, s_X11_workFlow_55, b_X11_workFlow_55, s_X11_workFlow_82, b_X11_workFlow_82, s_X11_workFlow_86, b_X11_workFlow_86, s_X11_workFlow_94, b_X11_workFlow_94, s_X11_workFlow_101, b_X11_workFlow_101, s_X11_workFlow_107, b_X11_workFlow_107, s_X11_workFlow_109, b_X11_workFlow_109, s_X11_workFlow_117, b_X11_workFlow_117, s_X11_workFlow_120, b_X11_workFlow_120, s_X11_workFlow_129, b_X11_workFlow_129, s_X11_workFlow_142, b_X11_workFlow_142, s_X11_workFlow_146, b_X11_workFlow_146, s_X11_workFlow_153, b_X11_workFlow_153, s_X11_workFlow_155, b_X11_workFlow_155, s_X11_workFlow_161, b_X11_workFlow_161, s_X11_workFlow_190, b_X11_workFlow_190, s_X11_workFlow_196, b_X11_workFlow_196, s_X11_workFlow_202, b_X11_workFlow_202, g_X11_36, g_X11_13, g_X11_7, g_X11_55, g_X11_48, ld_X11_91, G_X11_workFlow_189, sp_X11_at_e, G_X11_workFlow_186, sp_X11_set_e, G_X11_workFlow_212, sp_X11_flowOf_e, e2, e3]
    refine ⟨by omega, fun c => by omega, fun c => ?_⟩
    refine wf_2x hR H hg ⟨h1, by omega⟩ w.toNat 0 f l5 (by omega) (by omega) (fun l4 l5 f' hf => ?_)
    refine ih (y + 1) f' l4 l5 (by omega) (by omega) (fun f2 hf2 => hk f2 (fun j hj => ?_))
    rw [hf2 j hj, hf j hj]
    show _ = f j + (m_sm (fun u => m_hit w h (m_at μ of) u y j) w.toNat 0 + m_sm (fun v => m_sm (fun u => m_hit w h (m_at μ of) u v j) w.toNat 0) d (y + 1))
    omega
set_option maxRecDepth 100000 in
set_option maxHeartbeats 4000000 in
theorem B_X11_workFlow : q_Body cX11_workFlow 6 u_X11_workFlow fl_X11 ld_X11 G_X11_workFlow q_T 4 s_X11_workFlow sp_X11_workFlow := by
  intro S Rt hR ra μ h
  obtain ⟨this, b, rfl, h⟩ := sp_X11_workFlow_i h
  refine ⟨by simp [q_sl, q_ct], ?_⟩
  show S 0 [some (.inr (.inr this)), some (.inl b), none, none, none, none] [] μ
  obtain ⟨rfl, h1, h2, h3, h4, hk⟩ := h
  have H : wf_ok μ (μ 85 2) (μ 85 3) b (μ 92 (3 * b)) := ⟨rfl, rfl, h2, h1, h3, h4⟩
  refine hR 80 [] 0 _ _ _ rfl ?_
  simp only [v_opt_n, v_opt_s, v_nil, v_iconst, v_bipush, v_sipush, v_lconst0, v_lconst1, v_ldc, v_ldcw, v_ldc2, v_iload0, v_iload1, v_iload2, v_iload3, v_iload, v_lload0, v_lload1, v_lload2, v_lload3, v_lload, v_aload0, v_aload1, v_aload2, v_aload3, v_aload, v_istore0, v_istore1, v_istore2, v_istore3, v_istore, v_lstore0, v_lstore1, v_lstore2, v_lstore3, v_lstore, v_astore0, v_astore1, v_astore2, v_astore3, v_astore, v_iinc, v_iadd, v_isub, v_imul, v_iand, v_ior, v_ixor, v_ishl, v_ishr, v_iushr, v_ineg, v_idiv, v_irem, v_ladd, v_lsub, v_lmul, v_lcmp, v_i2l, v_l2i, v_i2c, v_dup, v_dup2, v_if_eq, v_if_ne, v_if_lt, v_if_ge, v_if_gt, v_if_le, v_ic_eq, v_ic_ne, v_ic_lt, v_ic_ge, v_ic_gt, v_ic_le, v_goto, v_tsw, v_lsw, v_ireturn, v_areturn, v_return, v_iaload, v_laload, v_baload, v_caload, v_aaload, v_iastore, v_lastore, v_bastore, v_castore, v_alen, v_invvi, v_invst, v_invsp, e_int, e_lng, e_ref, e_lg0, e_lg1, e_lg2, e_lg3, e_lg4, e_lg5, e_lg6, e_lg7, e_lg8, e_lg9, e_lg10, e_lg11, e_lg12, e_lg13, e_clrI, e_clrJ, e_clrP, e_clrN, e_s0, e_s1, e_s2, e_s3, e_s4, e_s5, e_s6, e_s7, e_s8, e_s9, e_s10, e_s11, e_s12, e_s13, e_t0, e_t1, e_t2, e_t3, e_t4, e_t5, e_t6, e_t7, e_t8, e_t9, e_t10, e_t11, e_t12, e_t13, e_fd, e_kk, e_k0, e_k1, e_k2, e_k3, e_k4, e_k5, e_k6, e_k7, e_k8, e_k9, e_sv0, e_sv1, e_sv2, e_sv3, e_svc, e_pf0, e_pf1, e_pf2, e_pf3, e_ar, e_aa, e_al, e_sw1, e_sw2, e_ct0, e_ct1, e_ct2, e_cat0, e_cat1, e_rk0, e_rk1, e_rk2, e_inv0, e_inv1, e_inv2, e_inv3, e_inv4, e_inv5, e_inv6, e_o0, e_o1, e_cl, e_cle, e_cg, e_cge, e_ce, e_cr1, e_cr2, e_r, e_R, e_up, Int.cast_ofNat_Int, u_app, false_and, and_false, e_b0, e_b1, e_bn, e_bl, e_bu, Int.reduceLE, Int.reduceLT, Int.reduceEq, Int.reduceNeg, Int.reduceAdd, Int.reduceSub, Int.reduceMul, Nat.reduceLeDiff, Nat.reduceLT, Nat.reduceAdd, Nat.reduceEqDiff, true_and, and_true, true_or, or_true, false_or, or_false, forall_const, not_true_eq_false, not_false_eq_true, true_implies, false_implies, implies_true, and_self, zero_ne_one, one_ne_zero, eq_self, reduceIte, s_X11_workFlow_0, b_X11_workFlow_0, s_X11_workFlow_11, b_X11_workFlow_11, s_X11_workFlow_19, b_X11_workFlow_19, s_X11_workFlow_22, b_X11_workFlow_22, s_X11_workFlow_31, b_X11_workFlow_31, s_X11_workFlow_49, b_X11_workFlow_49, s_X11_workFlow_54, b_X11_workFlow_54, s_X11_workFlow_55, b_X11_workFlow_55, s_X11_workFlow_82, b_X11_workFlow_82, s_X11_workFlow_86, b_X11_workFlow_86, s_X11_workFlow_94, b_X11_workFlow_94, s_X11_workFlow_101, b_X11_workFlow_101, s_X11_workFlow_107, b_X11_workFlow_107, s_X11_workFlow_109, b_X11_workFlow_109, s_X11_workFlow_117, b_X11_workFlow_117, s_X11_workFlow_120, b_X11_workFlow_120, s_X11_workFlow_129, b_X11_workFlow_129, s_X11_workFlow_142, b_X11_workFlow_142, s_X11_workFlow_146, b_X11_workFlow_146, s_X11_workFlow_153, b_X11_workFlow_153, s_X11_workFlow_155, b_X11_workFlow_155, s_X11_workFlow_161, b_X11_workFlow_161, s_X11_workFlow_190, b_X11_workFlow_190, s_X11_workFlow_196, b_X11_workFlow_196, s_X11_workFlow_202, b_X11_workFlow_202, g_X11_36, g_X11_13, g_X11_7, g_X11_55, g_X11_48, ld_X11_91, G_X11_workFlow_189, sp_X11_at_e, G_X11_workFlow_186, sp_X11_set_e, G_X11_workFlow_212, sp_X11_flowOf_e, T_92]
  refine ⟨by omega, by omega, ?_⟩
  have key := wf_1y hR H (μ 85 3).toNat 0 (μ 98) (fun i => μ 96 (144 * b + i)) none (by omega) (by omega) (fun l4 g f a1 a2 => ?_)
  · rw [q_blk_of, q_reg_of] at key
    exact key
  · refine wf_2y hR H (fun u v q => (a2 u v q.1 q.2.1 q.2.2.1 q.2.2.2).2) (μ 85 3).toNat 0 f l4 none (by omega) (by omega) (fun f' hf => hk g f' (fun x y q => ?_))
    rw [hf _ (by omega), (a2 x y q.1 q.2.1 q.2.2.1 q.2.2.2).1]
    unfold m_flow
    by_cases c : μ 96 (144 * μ 92 (3 * b) + 12 * y + x) = -2000000000
    · rw [if_pos c, if_pos c]
      rw [m_hit_gap h2 q c]
      rfl
    · rw [if_neg c, if_neg c, Int.zero_add]
set_option maxRecDepth 100000 in
theorem C_X11_workFlow {l : Launch} {ad : Int → Nat} {D : va_G} {cy : Nat → ClassId} {Z : State → Prop} (hZ : q_Zg ad Z) : q_Ct l q_T q_N ad D cy Z yX11_workFlow cX11_workFlow 6 none rm_X11_workFlow sp_X11_workFlow := by
  obtain ⟨hf, hg, hld⟩ := q_chkS k_X11_workFlow
  refine q_met (rk := 4) q_wokT (by decide) rfl hf hg hld rfl (q_skS L_X11_workFlow o_X11_workFlow) ?_ ?_ ?_ ?_ B_X11_workFlow
  · intro i hi; exact absurd hi List.not_mem_nil
  · intro i hi
    have hi : i = 189 ∨ i = 186 ∨ i = 212 := by simpa [u_X11_workFlow] using hi
    rcases hi with rfl | rfl | rfl
    · exact q_crV hZ.1 (C_X11_at hZ) rv_X11_at cm_X11_at (by decide +kernel) (by decide +kernel) (by decide +kernel) (by decide +kernel) (by decide +kernel) ⟨rfl, rfl⟩ (by decide)
    · exact q_crV hZ.1 (C_X11_set hZ) rv_X11_set cm_X11_set (by decide +kernel) (by decide +kernel) (by decide +kernel) (by decide +kernel) (by decide +kernel) ⟨rfl, rfl⟩ (by decide)
    · exact q_crV hZ.1 (C_X11_flowOf hZ) rv_X11_flowOf cm_X11_flowOf (by decide +kernel) (by decide +kernel) (by decide +kernel) (by decide +kernel) (by decide +kernel) ⟨rfl, rfl⟩ (by decide)
  · intro i hi; exact absurd hi List.not_mem_nil
  · intro i hi; exact absurd hi List.not_mem_nil
theorem rv_X11_workFlow : q_rcv q_T yX11_workFlow.cls sp_X11_workFlow := by
  intro ra μ K h
  obtain ⟨this, b, rfl, h⟩ := sp_X11_workFlow_i h
  obtain rfl := h.1
  exact ⟨[.inl b], 85, 11, _, _, rfl, T_85, rfl, rfl⟩
theorem cm_X11_workFlow : Cond.code yX11_workFlow cX11_workFlow 6 none ∈ q_tb := by decide +kernel

