/-! the class: shorten -/
/-- what a way's row holds -/
abbrev c_wr (v : Int) : Prop := v = -2000000000 ∨ (0 ≤ v ∧ v ≤ 1000000000)
abbrev c_bef (v : Int) : Int := if v = -2000000000 then 1000000001 else v
abbrev c_stp (v : Int) : Int := if v ≤ 0 then 0 else v
def sp_X1_shorten : QP := fun ra μ K => match ra with
  | [.inl place, .inr (.inr out), .inr (.inr b), .inr (.inr this)] => this = 34 ∧ c_vn b ∧ c_vn out ∧ c_sd μ ∧ (15 ≤ place ∧ place ≤ 180) ∧ m_vr (μ b place) ∧ (∀ p : Int, 0 ≤ p → p < 196 → c_wr (μ out p)) ∧ (μ b place = -2000000000 ∨ μ out place = 0 → K (some (.inl 0)) μ) ∧ (¬ (μ b place = -2000000000 ∨ μ out place = 0) → ∀ l : Int, l ≤ c_bef (μ out place) → (∀ d : Nat, d < 4 → ¬ μ out (place + μ 36 d) = -2000000000 → l ≤ μ out (place + μ 36 d) + c_stp (μ b place)) → (l = c_bef (μ out place) ∨ ∃ d : Nat, d < 4 ∧ ¬ μ out (place + μ 36 d) = -2000000000 ∧ l = μ out (place + μ 36 d) + c_stp (μ b place)) → (l < c_bef (μ out place) → K (some (.inl 1)) (q_up μ out place l)) ∧ (¬ l < c_bef (μ out place) → K (some (.inl 0)) μ))
  | _ => False
theorem sp_X1_shorten_e (this b out place : Int) (μ : QM) (K : Option QV → QM → Prop) : sp_X1_shorten [.inl place, .inr (.inr out), .inr (.inr b), .inr (.inr this)] μ K = (this = 34 ∧ c_vn b ∧ c_vn out ∧ c_sd μ ∧ (15 ≤ place ∧ place ≤ 180) ∧ m_vr (μ b place) ∧ (∀ p : Int, 0 ≤ p → p < 196 → c_wr (μ out p)) ∧ (μ b place = -2000000000 ∨ μ out place = 0 → K (some (.inl 0)) μ) ∧ (¬ (μ b place = -2000000000 ∨ μ out place = 0) → ∀ l : Int, l ≤ c_bef (μ out place) → (∀ d : Nat, d < 4 → ¬ μ out (place + μ 36 d) = -2000000000 → l ≤ μ out (place + μ 36 d) + c_stp (μ b place)) → (l = c_bef (μ out place) ∨ ∃ d : Nat, d < 4 ∧ ¬ μ out (place + μ 36 d) = -2000000000 ∧ l = μ out (place + μ 36 d) + c_stp (μ b place)) → (l < c_bef (μ out place) → K (some (.inl 1)) (q_up μ out place l)) ∧ (¬ l < c_bef (μ out place) → K (some (.inl 0)) μ))) := propext Iff.rfl
theorem sp_X1_shorten_i {ra : List QV} {μ : QM} {K : Option QV → QM → Prop} (h : sp_X1_shorten ra μ K) : ∃ this b out place : Int, ra = [.inl place, .inr (.inr out), .inr (.inr b), .inr (.inr this)] ∧ (this = 34 ∧ c_vn b ∧ c_vn out ∧ c_sd μ ∧ (15 ≤ place ∧ place ≤ 180) ∧ m_vr (μ b place) ∧ (∀ p : Int, 0 ≤ p → p < 196 → c_wr (μ out p)) ∧ (μ b place = -2000000000 ∨ μ out place = 0 → K (some (.inl 0)) μ) ∧ (¬ (μ b place = -2000000000 ∨ μ out place = 0) → ∀ l : Int, l ≤ c_bef (μ out place) → (∀ d : Nat, d < 4 → ¬ μ out (place + μ 36 d) = -2000000000 → l ≤ μ out (place + μ 36 d) + c_stp (μ b place)) → (l = c_bef (μ out place) ∨ ∃ d : Nat, d < 4 ∧ ¬ μ out (place + μ 36 d) = -2000000000 ∧ l = μ out (place + μ 36 d) + c_stp (μ b place)) → (l < c_bef (μ out place) → K (some (.inl 1)) (q_up μ out place l)) ∧ (¬ l < c_bef (μ out place) → K (some (.inl 0)) μ))) := by
  unfold sp_X1_shorten at h
  split at h
  · exact ⟨_, _, _, _, rfl, h⟩
  · exact h.elim
def rm_X1_shorten : Room := { frames := 1, cells := 0, slots := 0, locals := 21 }
def G_X1_shorten : Nat → Nat × QP := fun i => match i with
  | 114 => (2, sp_J9_max_7cf53)
  | _ => (0, fun _ _ _ => False)
theorem G_X1_shorten_114 : G_X1_shorten 114 = (2, sp_J9_max_7cf53) := id rfl
set_option maxRecDepth 100000 in
theorem sh_50 {Rt : Option QV → QM → Prop} {S : Nat → QL → List QV → QM → Prop} (hR : q_Rule cX1_shorten 9 u_X1_shorten fl_X1 ld_X1 G_X1_shorten q_T 1 s_X1_shorten Rt S) {μ : QM} {b out p bef st : Int} (ho : c_vn out) (hs : c_sd μ) (hp : 15 ≤ p ∧ p ≤ 180) (hw : ∀ p : Int, 0 ≤ p → p < 196 → c_wr (μ out p)) (hbf : 0 ≤ bef ∧ bef ≤ 1000000001) (hst : 0 ≤ st ∧ st ≤ 1000000000) (hk : ∀ l : Int, l ≤ bef → (∀ d : Nat, d < 4 → ¬ μ out (p + μ 36 d) = -2000000000 → l ≤ μ out (p + μ 36 d) + st) → (l = bef ∨ ∃ d : Nat, d < 4 ∧ ¬ μ out (p + μ 36 d) = -2000000000 ∧ l = μ out (p + μ 36 d) + st) → (l < bef → Rt (some (.inl 1)) (q_up μ out p l)) ∧ (¬ l < bef → Rt (some (.inl 0)) μ)) : ∀ (e d : Nat) (l : Int) (l8 : Option QV), d + e = 4 → (0 ≤ l ∧ l ≤ bef) → (∀ i : Nat, i < d → ¬ μ out (p + μ 36 i) = -2000000000 → l ≤ μ out (p + μ 36 i) + st) → (l = bef ∨ ∃ i : Nat, i < 4 ∧ ¬ μ out (p + μ 36 i) = -2000000000 ∧ l = μ out (p + μ 36 i) + st) → S 50 [some (.inr (.inr 34)), some (.inr (.inr b)), some (.inr (.inr out)), some (.inl p), some (.inl bef), some (.inl l), some (.inl st), some (.inl d), l8] [] μ := by
  intro e
  have hTo := T_vn ho
  induction e with
  | zero =>
    intro d l l8 h1 h2 h3 h4
    obtain rfl : d = 4 := by omega
    obtain ⟨k1, k2⟩ := hk l h2.2 h3 h4
    refine hR 60 b_X1_shorten_50 50 _ _ _ o_X1_shorten_50 ?_
    simp only [v_opt_n, v_opt_s, v_nil, v_iconst, v_bipush, v_sipush, v_lconst0, v_lconst1, v_ldc, v_ldcw, v_ldc2, v_iload0, v_iload1, v_iload2, v_iload3, v_iload, v_lload0, v_lload1, v_lload2, v_lload3, v_lload, v_aload0, v_aload1, v_aload2, v_aload3, v_aload, v_istore0, v_istore1, v_istore2, v_istore3, v_istore, v_lstore0, v_lstore1, v_lstore2, v_lstore3, v_lstore, v_astore0, v_astore1, v_astore2, v_astore3, v_astore, v_iinc, v_iadd, v_isub, v_imul, v_iand, v_ior, v_ixor, v_ishl, v_ishr, v_iushr, v_ineg, v_idiv, v_irem, v_ladd, v_lsub, v_lmul, v_lcmp, v_i2l, v_l2i, v_i2c, v_dup, v_dup2, v_if_eq, v_if_ne, v_if_lt, v_if_ge, v_if_gt, v_if_le, v_ic_eq, v_ic_ne, v_ic_lt, v_ic_ge, v_ic_gt, v_ic_le, v_goto, v_tsw, v_lsw, v_ireturn, v_areturn, v_return, v_iaload, v_laload, v_baload, v_caload, v_aaload, v_iastore, v_lastore, v_bastore, v_castore, v_alen, v_invvi, v_invst, v_invsp, e_int, e_lng, e_ref, e_lg0, e_lg1, e_lg2, e_lg3, e_lg4, e_lg5, e_lg6, e_lg7, e_lg8, e_lg9, e_lg10, e_lg11, e_lg12, e_lg13, e_clrI, e_clrJ, e_clrP, e_clrN, e_s0, e_s1, e_s2, e_s3, e_s4, e_s5, e_s6, e_s7, e_s8, e_s9, e_s10, e_s11, e_s12, e_s13, e_t0, e_t1, e_t2, e_t3, e_t4, e_t5, e_t6, e_t7, e_t8, e_t9, e_t10, e_t11, e_t12, e_t13, e_fd, e_kk, e_k0, e_k1, e_k2, e_k3, e_k4, e_k5, e_k6, e_k7, e_k8, e_k9, e_sv0, e_sv1, e_sv2, e_sv3, e_svc, e_pf0, e_pf1, e_pf2, e_pf3, e_ar, e_aa, e_al, e_sw1, e_sw2, e_ct0, e_ct1, e_ct2, e_cat0, e_cat1, e_rk0, e_rk1, e_rk2, e_inv0, e_inv1, e_inv2, e_inv3, e_inv4, e_inv5, e_inv6, e_o0, e_o1, e_cl, e_cle, e_cg, e_cge, e_ce, e_cr1, e_cr2, e_r, e_R, e_up, Int.cast_ofNat_Int, u_app, false_and, and_false, e_b0, e_b1, e_bn, e_bl, e_bu, Int.reduceLE, Int.reduceLT, Int.reduceEq, Int.reduceNeg, Int.reduceAdd, Int.reduceSub, Int.reduceMul, Nat.reduceLeDiff, Nat.reduceLT, Nat.reduceAdd, Nat.reduceEqDiff, true_and, and_true, true_or, or_true, false_or, or_false, forall_const, not_true_eq_false, not_false_eq_true, true_implies, false_implies, implies_true, and_self, zero_ne_one, one_ne_zero, eq_self, reduceIte, s_X1_shorten_0, b_X1_shorten_0, s_X1_shorten_8, b_X1_shorten_8, s_X1_shorten_14, b_X1_shorten_14, s_X1_shorten_16, b_X1_shorten_16, s_X1_shorten_24, b_X1_shorten_24, s_X1_shorten_29, b_X1_shorten_29, s_X1_shorten_32, b_X1_shorten_32, s_X1_shorten_50, b_X1_shorten_50, s_X1_shorten_60, b_X1_shorten_60, s_X1_shorten_80, b_X1_shorten_80, s_X1_shorten_90, b_X1_shorten_90, s_X1_shorten_97, b_X1_shorten_97, s_X1_shorten_103, b_X1_shorten_103, s_X1_shorten_110, b_X1_shorten_110, s_X1_shorten_115, b_X1_shorten_115, s_X1_shorten_122, b_X1_shorten_122, s_X1_shorten_126, b_X1_shorten_126, s_X1_shorten_127, b_X1_shorten_127, g_X1_18, ld_X1_100, ld_X1_145, G_X1_shorten_114, sp_J9_max_7cf53_e, T_36, hTo]
    exact ⟨by omega, fun c => ⟨by omega, fun _ => k2 (by omega), fun c2 => absurd c c2⟩, fun c => ⟨by omega, by omega, by omega, by omega, fun c2 => absurd c2 c, fun _ => k1 (by omega)⟩⟩
  | succ e ih =>
    intro d l l8 h1 h2 h3 h4
    obtain ⟨-, -, k3⟩ := c_sd_k hs (show d < 4 by omega) 0 0
    have ho1 := hw (p + μ 36 d) (by omega) (by omega)
    have ih := fun l => ih (d + 1) l (some (.inl (μ out (p + μ 36 d)))) (by omega)
    rw [show ((d + 1 : Nat) : Int) = (d : Int) + 1 by omega] at ih
    refine hR 60 b_X1_shorten_50 50 _ _ _ o_X1_shorten_50 ?_
    simp only [v_opt_n, v_opt_s, v_nil, v_iconst, v_bipush, v_sipush, v_lconst0, v_lconst1, v_ldc, v_ldcw, v_ldc2, v_iload0, v_iload1, v_iload2, v_iload3, v_iload, v_lload0, v_lload1, v_lload2, v_lload3, v_lload, v_aload0, v_aload1, v_aload2, v_aload3, v_aload, v_istore0, v_istore1, v_istore2, v_istore3, v_istore, v_lstore0, v_lstore1, v_lstore2, v_lstore3, v_lstore, v_astore0, v_astore1, v_astore2, v_astore3, v_astore, v_iinc, v_iadd, v_isub, v_imul, v_iand, v_ior, v_ixor, v_ishl, v_ishr, v_iushr, v_ineg, v_idiv, v_irem, v_ladd, v_lsub, v_lmul, v_lcmp, v_i2l, v_l2i, v_i2c, v_dup, v_dup2, v_if_eq, v_if_ne, v_if_lt, v_if_ge, v_if_gt, v_if_le, v_ic_eq, v_ic_ne, v_ic_lt, v_ic_ge, v_ic_gt, v_ic_le, v_goto, v_tsw, v_lsw, v_ireturn, v_areturn, v_return, v_iaload, v_laload, v_baload, v_caload, v_aaload, v_iastore, v_lastore, v_bastore, v_castore, v_alen, v_invvi, v_invst, v_invsp, e_int, e_lng, e_ref, e_lg0, e_lg1, e_lg2, e_lg3, e_lg4, e_lg5, e_lg6, e_lg7, e_lg8, e_lg9, e_lg10, e_lg11, e_lg12, e_lg13, e_clrI, e_clrJ, e_clrP, e_clrN, e_s0, e_s1, e_s2, e_s3, e_s4, e_s5, e_s6, e_s7, e_s8, e_s9, e_s10, e_s11, e_s12, e_s13, e_t0, e_t1, e_t2, e_t3, e_t4, e_t5, e_t6, e_t7, e_t8, e_t9, e_t10, e_t11, e_t12, e_t13, e_fd, e_kk, e_k0, e_k1, e_k2, e_k3, e_k4, e_k5, e_k6, e_k7, e_k8, e_k9, e_sv0, e_sv1, e_sv2, e_sv3, e_svc, e_pf0, e_pf1, e_pf2, e_pf3, e_ar, e_aa, e_al, e_sw1, e_sw2, e_ct0, e_ct1, e_ct2, e_cat0, e_cat1, e_rk0, e_rk1, e_rk2, e_inv0, e_inv1, e_inv2, e_inv3, e_inv4, e_inv5, e_inv6, e_o0, e_o1, e_cl, e_cle, e_cg, e_cge, e_ce, e_cr1, e_cr2, e_r, e_R, e_up, Int.cast_ofNat_Int, u_app, false_and, and_false, e_b0, e_b1, e_bn, e_bl, e_bu, Int.reduceLE, Int.reduceLT, Int.reduceEq, Int.reduceNeg, Int.reduceAdd, Int.reduceSub, Int.reduceMul, Nat.reduceLeDiff, Nat.reduceLT, Nat.reduceAdd, Nat.reduceEqDiff, true_and, and_true, true_or, or_true, false_or, or_false, forall_const, not_true_eq_false, not_false_eq_true, true_implies, false_implies, implies_true, and_self, zero_ne_one, one_ne_zero, eq_self, reduceIte, s_X1_shorten_0, b_X1_shorten_0, s_X1_shorten_8, b_X1_shorten_8, s_X1_shorten_14, b_X1_shorten_14, s_X1_shorten_16, b_X1_shorten_16, s_X1_shorten_24, b_X1_shorten_24, s_X1_shorten_29, b_X1_shorten_29, s_X1_shorten_32, b_X1_shorten_32, s_X1_shorten_50, b_X1_shorten_50, s_X1_shorten_60, b_X1_shorten_60, s_X1_shorten_80, b_X1_shorten_80, s_X1_shorten_90, b_X1_shorten_90, s_X1_shorten_97, b_X1_shorten_97, s_X1_shorten_103, b_X1_shorten_103, s_X1_shorten_110, b_X1_shorten_110, s_X1_shorten_115, b_X1_shorten_115, s_X1_shorten_122, b_X1_shorten_122, s_X1_shorten_126, b_X1_shorten_126, s_X1_shorten_127, b_X1_shorten_127, g_X1_18, ld_X1_100, ld_X1_145, G_X1_shorten_114, sp_J9_max_7cf53_e, T_36, hTo]
    refine ⟨by omega, fun c => by omega, fun c => ⟨by omega, by omega, by omega, by omega, by omega, by omega, fun c1 => ih l h2 (fun i hi hn => ?_) h4, fun c1 => ⟨by omega, fun c2 => ih l h2 (fun i hi hn => ?_) h4, fun c2 => ih _ (by omega) (fun i hi hn => ?_) (Or.inr ⟨d, by omega, c1, rfl⟩)⟩⟩⟩
    · by_cases ci : i = d
      · rw [ci] at hn
        exact absurd c1 hn
      · exact h3 i (by omega) hn
    · by_cases ci : i = d
      · rw [ci]
        exact c2
      · exact h3 i (by omega) hn
    · by_cases ci : i = d
      · rw [ci]
        exact Int.le_refl _
      · have := h3 i (by omega) hn
        omega
set_option maxRecDepth 100000 in
set_option maxHeartbeats 4000000 in
theorem B_X1_shorten : q_Body cX1_shorten 9 u_X1_shorten fl_X1 ld_X1 G_X1_shorten q_T 1 s_X1_shorten sp_X1_shorten := by
  intro S Rt hR ra μ h
  obtain ⟨this, b, out, place, rfl, h⟩ := sp_X1_shorten_i h
  refine ⟨by simp [q_sl, q_ct], ?_⟩
  show S 0 [some (.inr (.inr this)), some (.inr (.inr b)), some (.inr (.inr out)), some (.inl place), none, none, none, none, none] [] μ
  obtain ⟨rfl, hb, ho, hs, hp, hvb, hw, hk1, hk2⟩ := h
  have hTb := T_vn hb
  have hTo := T_vn ho
  have hop := hw place (by omega) (by omega)
  refine hR 60 [] 0 _ _ _ rfl ?_
  simp only [v_opt_n, v_opt_s, v_nil, v_iconst, v_bipush, v_sipush, v_lconst0, v_lconst1, v_ldc, v_ldcw, v_ldc2, v_iload0, v_iload1, v_iload2, v_iload3, v_iload, v_lload0, v_lload1, v_lload2, v_lload3, v_lload, v_aload0, v_aload1, v_aload2, v_aload3, v_aload, v_istore0, v_istore1, v_istore2, v_istore3, v_istore, v_lstore0, v_lstore1, v_lstore2, v_lstore3, v_lstore, v_astore0, v_astore1, v_astore2, v_astore3, v_astore, v_iinc, v_iadd, v_isub, v_imul, v_iand, v_ior, v_ixor, v_ishl, v_ishr, v_iushr, v_ineg, v_idiv, v_irem, v_ladd, v_lsub, v_lmul, v_lcmp, v_i2l, v_l2i, v_i2c, v_dup, v_dup2, v_if_eq, v_if_ne, v_if_lt, v_if_ge, v_if_gt, v_if_le, v_ic_eq, v_ic_ne, v_ic_lt, v_ic_ge, v_ic_gt, v_ic_le, v_goto, v_tsw, v_lsw, v_ireturn, v_areturn, v_return, v_iaload, v_laload, v_baload, v_caload, v_aaload, v_iastore, v_lastore, v_bastore, v_castore, v_alen, v_invvi, v_invst, v_invsp, e_int, e_lng, e_ref, e_lg0, e_lg1, e_lg2, e_lg3, e_lg4, e_lg5, e_lg6, e_lg7, e_lg8, e_lg9, e_lg10, e_lg11, e_lg12, e_lg13, e_clrI, e_clrJ, e_clrP, e_clrN, e_s0, e_s1, e_s2, e_s3, e_s4, e_s5, e_s6, e_s7, e_s8, e_s9, e_s10, e_s11, e_s12, e_s13, e_t0, e_t1, e_t2, e_t3, e_t4, e_t5, e_t6, e_t7, e_t8, e_t9, e_t10, e_t11, e_t12, e_t13, e_fd, e_kk, e_k0, e_k1, e_k2, e_k3, e_k4, e_k5, e_k6, e_k7, e_k8, e_k9, e_sv0, e_sv1, e_sv2, e_sv3, e_svc, e_pf0, e_pf1, e_pf2, e_pf3, e_ar, e_aa, e_al, e_sw1, e_sw2, e_ct0, e_ct1, e_ct2, e_cat0, e_cat1, e_rk0, e_rk1, e_rk2, e_inv0, e_inv1, e_inv2, e_inv3, e_inv4, e_inv5, e_inv6, e_o0, e_o1, e_cl, e_cle, e_cg, e_cge, e_ce, e_cr1, e_cr2, e_r, e_R, e_up, Int.cast_ofNat_Int, u_app, false_and, and_false, e_b0, e_b1, e_bn, e_bl, e_bu, Int.reduceLE, Int.reduceLT, Int.reduceEq, Int.reduceNeg, Int.reduceAdd, Int.reduceSub, Int.reduceMul, Nat.reduceLeDiff, Nat.reduceLT, Nat.reduceAdd, Nat.reduceEqDiff, true_and, and_true, true_or, or_true, false_or, or_false, forall_const, not_true_eq_false, not_false_eq_true, true_implies, false_implies, implies_true, and_self, zero_ne_one, one_ne_zero, eq_self, reduceIte, s_X1_shorten_0, b_X1_shorten_0, s_X1_shorten_8, b_X1_shorten_8, s_X1_shorten_14, b_X1_shorten_14, s_X1_shorten_16, b_X1_shorten_16, s_X1_shorten_24, b_X1_shorten_24, s_X1_shorten_29, b_X1_shorten_29, s_X1_shorten_32, b_X1_shorten_32, s_X1_shorten_50, b_X1_shorten_50, s_X1_shorten_60, b_X1_shorten_60, s_X1_shorten_80, b_X1_shorten_80, s_X1_shorten_90, b_X1_shorten_90, s_X1_shorten_97, b_X1_shorten_97, s_X1_shorten_103, b_X1_shorten_103, s_X1_shorten_110, b_X1_shorten_110, s_X1_shorten_115, b_X1_shorten_115, s_X1_shorten_122, b_X1_shorten_122, s_X1_shorten_126, b_X1_shorten_126, s_X1_shorten_127, b_X1_shorten_127, g_X1_18, ld_X1_100, ld_X1_145, G_X1_shorten_114, sp_J9_max_7cf53_e, hTb, hTo]
  have hstp : 0 ≤ c_stp (μ b place) ∧ c_stp (μ b place) ≤ 1000000000 := by
    show 0 ≤ (if μ b place ≤ 0 then 0 else μ b place) ∧ (if μ b place ≤ 0 then 0 else μ b place) ≤ 1000000000
    split <;> omega
  refine ⟨by omega, by omega, by omega, by omega, fun c => hk1 (Or.inl c), fun c => ⟨by omega, by omega, by omega, by omega, fun c1 => ⟨by omega, by omega, by omega, by omega, fun c2 => ⟨by omega, by omega, by omega, by omega, by omega, by omega, by omega, ?_⟩, fun c2 => ⟨by omega, by omega, by omega, by omega, ?_⟩⟩, fun c1 => hk1 (Or.inr c1)⟩⟩
  · have e : c_bef (μ out place) = μ out place := if_neg c2
    have hk3 := hk2 (fun q => q.elim c c1)
    rw [e] at hk3
    exact sh_50 hR ho hs hp hw (by omega) hstp hk3 4 0 _ none rfl (by omega) (fun i hi => by omega) (Or.inl rfl)
  · have e : c_bef (μ out place) = 1000000001 := if_pos c2
    have hk3 := hk2 (fun q => q.elim c c1)
    rw [e] at hk3
    exact sh_50 hR ho hs hp hw (by omega) hstp hk3 4 0 _ none rfl (by omega) (fun i hi => by omega) (Or.inl rfl)
set_option maxRecDepth 100000 in
theorem C_X1_shorten {l : Launch} {ad : Int → Nat} {D : va_G} {cy : Nat → ClassId} {Z : State → Prop} (hZ : q_Zg ad Z) : q_Ct l q_T q_N ad D cy Z yX1_shorten cX1_shorten 9 (some .boolean) rm_X1_shorten sp_X1_shorten := by
  obtain ⟨hf, hg, hld⟩ := q_chkS k_X1_shorten
  refine q_met (rk := 1) q_wokT (by decide) rfl hf hg hld rfl (q_skS L_X1_shorten o_X1_shorten) ?_ ?_ ?_ ?_ B_X1_shorten
  · intro i hi; exact absurd hi List.not_mem_nil
  · intro i hi; exact absurd hi List.not_mem_nil
  · intro i hi
    have hi : i = 114 := by simpa [u_X1_shorten] using hi
    rcases hi with rfl
    · exact q_crMax (by decide +kernel) (by decide)
  · intro i hi; exact absurd hi List.not_mem_nil
theorem rv_X1_shorten : q_rcv q_T yX1_shorten.cls sp_X1_shorten := by
  intro ra μ K h
  obtain ⟨this, b, out, place, rfl, h⟩ := sp_X1_shorten_i h
  obtain rfl := h.1
  exact ⟨[.inl place, .inr (.inr out), .inr (.inr b)], 34, 1, _, _, rfl, T_34, rfl, rfl⟩
theorem cm_X1_shorten : Cond.code yX1_shorten cX1_shorten 9 (some .boolean) ∈ q_tb := by decide +kernel

