/-! the class: the lowest side -/
def c_pk (k : Int) : Int := if k = -1 then -1 else c_p (k % 12) (k / 12)
theorem c_pk_m : c_pk (-1) = -1 := if_pos rfl
theorem c_pk_c {u v : Int} (h : 0 ≤ u ∧ u < 12 ∧ 0 ≤ v) : c_pk (12 * v + u) = c_p u v := by
  unfold c_pk
  rw [if_neg (by omega), show (12 * v + u) % 12 = u by omega, show (12 * v + u) / 12 = v by omega]
abbrev c_sd (μ : QM) : Prop := μ 36 0 = 1 ∧ μ 36 1 = 14 ∧ μ 36 2 = -1 ∧ μ 36 3 = -14
theorem c_sd_k {μ : QM} (hs : c_sd μ) {d : Nat} (hd : d < 4) (x y : Int) : c_p x y + μ 36 d = c_p (x + m_sx d) (y + m_sy d) ∧ (-1 ≤ m_sx d ∧ m_sx d ≤ 1 ∧ -1 ≤ m_sy d ∧ m_sy d ≤ 1) ∧ -14 ≤ μ 36 d ∧ μ 36 d ≤ 14 := by
  obtain ⟨s0, s1, s2, s3⟩ := hs
  have : d = 0 ∨ d = 1 ∨ d = 2 ∨ d = 3 := by omega
  rcases this with rfl | rfl | rfl | rfl
  · rw [show μ 36 ((0 : Nat) : Int) = 1 from s0]
    refine ⟨?_, by decide, by decide⟩
    show (y + 1) * 14 + x + 1 + 1 = (y + 0 + 1) * 14 + (x + 1) + 1
    omega
  · rw [show μ 36 ((1 : Nat) : Int) = 14 from s1]
    refine ⟨?_, by decide, by decide⟩
    show (y + 1) * 14 + x + 1 + 14 = (y + 1 + 1) * 14 + (x + 0) + 1
    omega
  · rw [show μ 36 ((2 : Nat) : Int) = -1 from s2]
    refine ⟨?_, by decide, by decide⟩
    show (y + 1) * 14 + x + 1 + -1 = (y + 0 + 1) * 14 + (x + -1) + 1
    omega
  · rw [show μ 36 ((3 : Nat) : Int) = -14 from s3]
    refine ⟨?_, by decide, by decide⟩
    show (y + 1) * 14 + x + 1 + -14 = (y + -1 + 1) * 14 + (x + 0) + 1
    omega
def sp_X1_lowestSide : QP := fun ra μ K => match ra with
  | [.inl place, .inr (.inr a), .inr (.inr this)] => this = 34 ∧ c_vn a ∧ c_sd μ ∧ ∃ w h x y : Int, m_dim w h ∧ m_in w h x y ∧ place = c_p x y ∧ c_gp μ a w h ∧ (∀ u v : Int, m_in w h u v → m_vr (c_A μ a u v)) ∧ K (some (.inl (c_pk (m_dn w h (c_A μ a) x y)))) μ
  | _ => False
theorem sp_X1_lowestSide_e (this a place : Int) (μ : QM) (K : Option QV → QM → Prop) : sp_X1_lowestSide [.inl place, .inr (.inr a), .inr (.inr this)] μ K = (this = 34 ∧ c_vn a ∧ c_sd μ ∧ ∃ w h x y : Int, m_dim w h ∧ m_in w h x y ∧ place = c_p x y ∧ c_gp μ a w h ∧ (∀ u v : Int, m_in w h u v → m_vr (c_A μ a u v)) ∧ K (some (.inl (c_pk (m_dn w h (c_A μ a) x y)))) μ) := propext Iff.rfl
theorem sp_X1_lowestSide_i {ra : List QV} {μ : QM} {K : Option QV → QM → Prop} (h : sp_X1_lowestSide ra μ K) : ∃ this a place : Int, ra = [.inl place, .inr (.inr a), .inr (.inr this)] ∧ (this = 34 ∧ c_vn a ∧ c_sd μ ∧ ∃ w h x y : Int, m_dim w h ∧ m_in w h x y ∧ place = c_p x y ∧ c_gp μ a w h ∧ (∀ u v : Int, m_in w h u v → m_vr (c_A μ a u v)) ∧ K (some (.inl (c_pk (m_dn w h (c_A μ a) x y)))) μ) := by
  unfold sp_X1_lowestSide at h
  split at h
  · exact ⟨_, _, _, rfl, h⟩
  · exact h.elim
def rm_X1_lowestSide : Room := { frames := 0, cells := 0, slots := 0, locals := 0 }
def G_X1_lowestSide : Nat → Nat × QP := fun i => match i with
  | _ => (0, fun _ _ _ => False)
set_option maxRecDepth 100000 in
theorem ls_10 {Rt : Option QV → QM → Prop} {S : Nat → QL → List QV → QM → Prop} (hR : q_Rule cX1_lowestSide 7 u_X1_lowestSide fl_X1 ld_X1 G_X1_lowestSide q_T 0 s_X1_lowestSide Rt S) {μ : QM} {a w h x y : Int} (ha : c_vn a) (hs : c_sd μ) (hd : m_dim w h) (hxy : m_in w h x y) (hg : c_gp μ a w h) (hv : ∀ u v : Int, m_in w h u v → m_vr (c_A μ a u v)) (hk : Rt (some (.inl (c_pk (m_fln w h (c_A μ a) x y 4).2))) μ) : ∀ (e d : Nat) (l6 : Option QV), d + e = 4 → S 10 [some (.inr (.inr 34)), some (.inr (.inr a)), some (.inl (c_p x y)), some (.inl (m_fln w h (c_A μ a) x y d).1), some (.inl (c_pk (m_fln w h (c_A μ a) x y d).2)), some (.inl (d : Int)), l6] [] μ := by
  intro e
  have hTa := T_vn ha
  induction e with
  | zero =>
    intro d l6 h1
    obtain rfl : d = 4 := by omega
    refine hR 60 b_X1_lowestSide_10 10 _ _ _ o_X1_lowestSide_10 ?_
    simp only [v_opt_n, v_opt_s, v_nil, v_iconst, v_bipush, v_sipush, v_lconst0, v_lconst1, v_ldc, v_ldcw, v_ldc2, v_iload0, v_iload1, v_iload2, v_iload3, v_iload, v_lload0, v_lload1, v_lload2, v_lload3, v_lload, v_aload0, v_aload1, v_aload2, v_aload3, v_aload, v_istore0, v_istore1, v_istore2, v_istore3, v_istore, v_lstore0, v_lstore1, v_lstore2, v_lstore3, v_lstore, v_astore0, v_astore1, v_astore2, v_astore3, v_astore, v_iinc, v_iadd, v_isub, v_imul, v_iand, v_ior, v_ixor, v_ishl, v_ishr, v_iushr, v_ineg, v_idiv, v_irem, v_ladd, v_lsub, v_lmul, v_lcmp, v_i2l, v_l2i, v_i2c, v_dup, v_dup2, v_if_eq, v_if_ne, v_if_lt, v_if_ge, v_if_gt, v_if_le, v_ic_eq, v_ic_ne, v_ic_lt, v_ic_ge, v_ic_gt, v_ic_le, v_goto, v_tsw, v_lsw, v_ireturn, v_areturn, v_return, v_iaload, v_laload, v_baload, v_caload, v_aaload, v_iastore, v_lastore, v_bastore, v_castore, v_alen, v_invvi, v_invst, v_invsp, e_int, e_lng, e_ref, e_lg0, e_lg1, e_lg2, e_lg3, e_lg4, e_lg5, e_lg6, e_lg7, e_lg8, e_lg9, e_lg10, e_lg11, e_lg12, e_lg13, e_clrI, e_clrJ, e_clrP, e_clrN, e_s0, e_s1, e_s2, e_s3, e_s4, e_s5, e_s6, e_s7, e_s8, e_s9, e_s10, e_s11, e_s12, e_s13, e_t0, e_t1, e_t2, e_t3, e_t4, e_t5, e_t6, e_t7, e_t8, e_t9, e_t10, e_t11, e_t12, e_t13, e_fd, e_kk, e_k0, e_k1, e_k2, e_k3, e_k4, e_k5, e_k6, e_k7, e_k8, e_k9, e_sv0, e_sv1, e_sv2, e_sv3, e_svc, e_pf0, e_pf1, e_pf2, e_pf3, e_ar, e_aa, e_al, e_sw1, e_sw2, e_ct0, e_ct1, e_ct2, e_cat0, e_cat1, e_rk0, e_rk1, e_rk2, e_inv0, e_inv1, e_inv2, e_inv3, e_inv4, e_inv5, e_inv6, e_o0, e_o1, e_cl, e_cle, e_cg, e_cge, e_ce, e_cr1, e_cr2, e_r, e_R, e_up, Int.cast_ofNat_Int, u_app, false_and, and_false, e_b0, e_b1, e_bn, e_bl, e_bu, Int.reduceLE, Int.reduceLT, Int.reduceEq, Int.reduceNeg, Int.reduceAdd, Int.reduceSub, Int.reduceMul, Nat.reduceLeDiff, Nat.reduceLT, Nat.reduceAdd, Nat.reduceEqDiff, true_and, and_true, true_or, or_true, false_or, or_false, forall_const, not_true_eq_false, not_false_eq_true, true_implies, false_implies, implies_true, and_self, zero_ne_one, one_ne_zero, eq_self, reduceIte, s_X1_lowestSide_0, b_X1_lowestSide_0, s_X1_lowestSide_10, b_X1_lowestSide_10, s_X1_lowestSide_20, b_X1_lowestSide_20, s_X1_lowestSide_40, b_X1_lowestSide_40, s_X1_lowestSide_48, b_X1_lowestSide_48, s_X1_lowestSide_57, b_X1_lowestSide_57, s_X1_lowestSide_63, b_X1_lowestSide_63, g_X1_18, ld_X1_100, T_36]
    exact hk
  | succ e ih =>
    intro d l6 h1
    obtain ⟨k1, k2, k3⟩ := c_sd_k hs (show d < 4 by omega) x y
    have hlow : m_vr (m_fln w h (c_A μ a) x y d).1 := by
      rcases m_fln_ok (w := w) (h := h) (A := c_A μ a) (x := x) (y := y) d with ⟨q, _⟩ | ⟨u, v, q1, _, _, q, _⟩
      · rw [q]; exact hv x y hxy
      · rw [q]; exact hv u v q1
    have e1 : ((d + 1 : Nat) : Int) = (d : Int) + 1 := by omega
    have e2 : m_fln w h (c_A μ a) x y (d + 1) = m_fls w h (c_A μ a) x y (d : Int) (m_fln w h (c_A μ a) x y d) := rfl
    have ih1 := fun l6 => ih (d + 1) l6 (by omega)
    rw [e1, e2] at ih1
    unfold m_fls at ih1
    generalize m_sx (d : Int) = sx at *
    generalize m_sy (d : Int) = sy at *
    have eo : c_A μ a (x + sx) (y + sy) = μ a (c_p (x + sx) (y + sy)) := rfl
    have hvo : m_vr (μ a (c_p (x + sx) (y + sy))) := by
      by_cases c : m_in w h (x + sx) (y + sy)
      · exact hv _ _ c
      · rw [hg _ _ (by omega) (by omega) (by omega) (by omega) c]
        exact Or.inl rfl
    have hpb : 0 ≤ c_p (x + sx) (y + sy) ∧ c_p (x + sx) (y + sy) < 196 := by
      show 0 ≤ (y + sy + 1) * 14 + (x + sx) + 1 ∧ (y + sy + 1) * 14 + (x + sx) + 1 < 196
      omega
    rw [eo] at ih1
    refine hR 60 b_X1_lowestSide_10 10 _ _ _ o_X1_lowestSide_10 ?_
    simp only [v_opt_n, v_opt_s, v_nil, v_iconst, v_bipush, v_sipush, v_lconst0, v_lconst1, v_ldc, v_ldcw, v_ldc2, v_iload0, v_iload1, v_iload2, v_iload3, v_iload, v_lload0, v_lload1, v_lload2, v_lload3, v_lload, v_aload0, v_aload1, v_aload2, v_aload3, v_aload, v_istore0, v_istore1, v_istore2, v_istore3, v_istore, v_lstore0, v_lstore1, v_lstore2, v_lstore3, v_lstore, v_astore0, v_astore1, v_astore2, v_astore3, v_astore, v_iinc, v_iadd, v_isub, v_imul, v_iand, v_ior, v_ixor, v_ishl, v_ishr, v_iushr, v_ineg, v_idiv, v_irem, v_ladd, v_lsub, v_lmul, v_lcmp, v_i2l, v_l2i, v_i2c, v_dup, v_dup2, v_if_eq, v_if_ne, v_if_lt, v_if_ge, v_if_gt, v_if_le, v_ic_eq, v_ic_ne, v_ic_lt, v_ic_ge, v_ic_gt, v_ic_le, v_goto, v_tsw, v_lsw, v_ireturn, v_areturn, v_return, v_iaload, v_laload, v_baload, v_caload, v_aaload, v_iastore, v_lastore, v_bastore, v_castore, v_alen, v_invvi, v_invst, v_invsp, e_int, e_lng, e_ref, e_lg0, e_lg1, e_lg2, e_lg3, e_lg4, e_lg5, e_lg6, e_lg7, e_lg8, e_lg9, e_lg10, e_lg11, e_lg12, e_lg13, e_clrI, e_clrJ, e_clrP, e_clrN, e_s0, e_s1, e_s2, e_s3, e_s4, e_s5, e_s6, e_s7, e_s8, e_s9, e_s10, e_s11, e_s12, e_s13, e_t0, e_t1, e_t2, e_t3, e_t4, e_t5, e_t6, e_t7, e_t8, e_t9, e_t10, e_t11, e_t12, e_t13, e_fd, e_kk, e_k0, e_k1, e_k2, e_k3, e_k4, e_k5, e_k6, e_k7, e_k8, e_k9, e_sv0, e_sv1, e_sv2, e_sv3, e_svc, e_pf0, e_pf1, e_pf2, e_pf3, e_ar, e_aa, e_al, e_sw1, e_sw2, e_ct0, e_ct1, e_ct2, e_cat0, e_cat1, e_rk0, e_rk1, e_rk2, e_inv0, e_inv1, e_inv2, e_inv3, e_inv4, e_inv5, e_inv6, e_o0, e_o1, e_cl, e_cle, e_cg, e_cge, e_ce, e_cr1, e_cr2, e_r, e_R, e_up, Int.cast_ofNat_Int, u_app, false_and, and_false, e_b0, e_b1, e_bn, e_bl, e_bu, Int.reduceLE, Int.reduceLT, Int.reduceEq, Int.reduceNeg, Int.reduceAdd, Int.reduceSub, Int.reduceMul, Nat.reduceLeDiff, Nat.reduceLT, Nat.reduceAdd, Nat.reduceEqDiff, true_and, and_true, true_or, or_true, false_or, or_false, forall_const, not_true_eq_false, not_false_eq_true, true_implies, false_implies, implies_true, and_self, zero_ne_one, one_ne_zero, eq_self, reduceIte, s_X1_lowestSide_0, b_X1_lowestSide_0, s_X1_lowestSide_10, b_X1_lowestSide_10, s_X1_lowestSide_20, b_X1_lowestSide_20, s_X1_lowestSide_40, b_X1_lowestSide_40, s_X1_lowestSide_48, b_X1_lowestSide_48, s_X1_lowestSide_57, b_X1_lowestSide_57, s_X1_lowestSide_63, b_X1_lowestSide_63, g_X1_18, ld_X1_100, T_36, hTa, k1]
    refine ⟨by omega, fun c => by omega, fun c => ⟨by omega, by omega, by omega, hpb.1, hpb.2, by omega, fun c1 => ?_, fun c1 => ⟨by omega, hpb.1, hpb.2, by omega, fun c2 => ?_, fun c2 => ⟨by omega, hpb.1, hpb.2, ?_⟩⟩⟩⟩
    · rw [if_neg (fun q => q.2.1 c1)] at ih1
      exact ih1 _
    · rw [if_neg (fun q => by have := q.2.2; omega)] at ih1
      exact ih1 _
    · have hin : m_in w h (x + sx) (y + sy) := Classical.byContradiction fun q => c1 (hg _ _ (by omega) (by omega) (by omega) (by omega) q)
      rw [if_pos ⟨hin, c1, by omega⟩] at ih1
      have ek := c_pk_c (u := x + sx) (v := y + sy) (by omega)
      have ih2 := ih1 (some (.inl (c_p (x + sx) (y + sy))))
      dsimp only at ih2
      rw [ek] at ih2
      exact ih2
set_option maxRecDepth 100000 in
set_option maxHeartbeats 4000000 in
theorem B_X1_lowestSide : q_Body cX1_lowestSide 7 u_X1_lowestSide fl_X1 ld_X1 G_X1_lowestSide q_T 0 s_X1_lowestSide sp_X1_lowestSide := by
  intro S Rt hR ra μ h
  obtain ⟨this, a, place, rfl, h⟩ := sp_X1_lowestSide_i h
  refine ⟨by simp [q_sl, q_ct], ?_⟩
  show S 0 [some (.inr (.inr this)), some (.inr (.inr a)), some (.inl place), none, none, none, none] [] μ
  obtain ⟨rfl, ha, hs, w, h9, x, y, hd, hxy, rfl, hg, hv, hk⟩ := h
  have hTa := T_vn ha
  refine hR 40 [] 0 _ _ _ rfl ?_
  simp only [v_opt_n, v_opt_s, v_nil, v_iconst, v_bipush, v_sipush, v_lconst0, v_lconst1, v_ldc, v_ldcw, v_ldc2, v_iload0, v_iload1, v_iload2, v_iload3, v_iload, v_lload0, v_lload1, v_lload2, v_lload3, v_lload, v_aload0, v_aload1, v_aload2, v_aload3, v_aload, v_istore0, v_istore1, v_istore2, v_istore3, v_istore, v_lstore0, v_lstore1, v_lstore2, v_lstore3, v_lstore, v_astore0, v_astore1, v_astore2, v_astore3, v_astore, v_iinc, v_iadd, v_isub, v_imul, v_iand, v_ior, v_ixor, v_ishl, v_ishr, v_iushr, v_ineg, v_idiv, v_irem, v_ladd, v_lsub, v_lmul, v_lcmp, v_i2l, v_l2i, v_i2c, v_dup, v_dup2, v_if_eq, v_if_ne, v_if_lt, v_if_ge, v_if_gt, v_if_le, v_ic_eq, v_ic_ne, v_ic_lt, v_ic_ge, v_ic_gt, v_ic_le, v_goto, v_tsw, v_lsw, v_ireturn, v_areturn, v_return, v_iaload, v_laload, v_baload, v_caload, v_aaload, v_iastore, v_lastore, v_bastore, v_castore, v_alen, v_invvi, v_invst, v_invsp, e_int, e_lng, e_ref, e_lg0, e_lg1, e_lg2, e_lg3, e_lg4, e_lg5, e_lg6, e_lg7, e_lg8, e_lg9, e_lg10, e_lg11, e_lg12, e_lg13, e_clrI, e_clrJ, e_clrP, e_clrN, e_s0, e_s1, e_s2, e_s3, e_s4, e_s5, e_s6, e_s7, e_s8, e_s9, e_s10, e_s11, e_s12, e_s13, e_t0, e_t1, e_t2, e_t3, e_t4, e_t5, e_t6, e_t7, e_t8, e_t9, e_t10, e_t11, e_t12, e_t13, e_fd, e_kk, e_k0, e_k1, e_k2, e_k3, e_k4, e_k5, e_k6, e_k7, e_k8, e_k9, e_sv0, e_sv1, e_sv2, e_sv3, e_svc, e_pf0, e_pf1, e_pf2, e_pf3, e_ar, e_aa, e_al, e_sw1, e_sw2, e_ct0, e_ct1, e_ct2, e_cat0, e_cat1, e_rk0, e_rk1, e_rk2, e_inv0, e_inv1, e_inv2, e_inv3, e_inv4, e_inv5, e_inv6, e_o0, e_o1, e_cl, e_cle, e_cg, e_cge, e_ce, e_cr1, e_cr2, e_r, e_R, e_up, Int.cast_ofNat_Int, u_app, false_and, and_false, e_b0, e_b1, e_bn, e_bl, e_bu, Int.reduceLE, Int.reduceLT, Int.reduceEq, Int.reduceNeg, Int.reduceAdd, Int.reduceSub, Int.reduceMul, Nat.reduceLeDiff, Nat.reduceLT, Nat.reduceAdd, Nat.reduceEqDiff, true_and, and_true, true_or, or_true, false_or, or_false, forall_const, not_true_eq_false, not_false_eq_true, true_implies, false_implies, implies_true, and_self, zero_ne_one, one_ne_zero, eq_self, reduceIte, s_X1_lowestSide_0, b_X1_lowestSide_0, s_X1_lowestSide_10, b_X1_lowestSide_10, s_X1_lowestSide_20, b_X1_lowestSide_20, s_X1_lowestSide_40, b_X1_lowestSide_40, s_X1_lowestSide_48, b_X1_lowestSide_48, s_X1_lowestSide_57, b_X1_lowestSide_57, s_X1_lowestSide_63, b_X1_lowestSide_63, g_X1_18, ld_X1_100, hTa]
  have hpb : 0 ≤ c_p x y ∧ c_p x y < 196 := by
    show 0 ≤ (y + 1) * 14 + x + 1 ∧ (y + 1) * 14 + x + 1 < 196
    omega
  exact ⟨by omega, hpb.1, hpb.2, ls_10 hR ha hs hd hxy hg hv hk 4 0 none rfl⟩
set_option maxRecDepth 100000 in
theorem C_X1_lowestSide {l : Launch} {ad : Int → Nat} {D : va_G} {cy : Nat → ClassId} {Z : State → Prop} (hZ : q_Zg ad Z) : q_Ct l q_T q_N ad D cy Z yX1_lowestSide cX1_lowestSide 7 (some .int) rm_X1_lowestSide sp_X1_lowestSide := by
  obtain ⟨hf, hg, hld⟩ := q_chkS k_X1_lowestSide
  refine q_met (rk := 0) q_wokT (by decide) rfl hf hg hld rfl (q_skS L_X1_lowestSide o_X1_lowestSide) ?_ ?_ ?_ ?_ B_X1_lowestSide
  · intro i hi; exact absurd hi List.not_mem_nil
  · intro i hi; exact absurd hi List.not_mem_nil
  · intro i hi; exact absurd hi List.not_mem_nil
  · intro i hi; exact absurd hi List.not_mem_nil
theorem rv_X1_lowestSide : q_rcv q_T yX1_lowestSide.cls sp_X1_lowestSide := by
  intro ra μ K h
  obtain ⟨this, a, place, rfl, h⟩ := sp_X1_lowestSide_i h
  obtain rfl := h.1
  exact ⟨[.inl place, .inr (.inr a)], 34, 1, _, _, rfl, T_34, rfl, rfl⟩
theorem cm_X1_lowestSide : Cond.code yX1_lowestSide cX1_lowestSide 7 (some .int) ∈ q_tb := by decide +kernel

