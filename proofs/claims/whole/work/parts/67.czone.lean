/-! the class: zones -/
abbrev c_g (μ : QM) (a b v : Int) : Int → Int := fun q => if μ b q = v then μ a q else -2000000000
abbrev c_vn (a : Int) : Prop := 24 ≤ a ∧ a < 34
theorem T_vn {a : Int} (h : c_vn a) : q_T a = some (.inr (.inl 0, 196)) := by
  have := T_val (i := a - 24) (by omega) (by omega)
  rw [show 24 + (a - 24) = a by omega] at this
  exact this
theorem c_g_vr {μ : QM} {a b v q : Int} (h : m_vr (μ a q)) : m_vr (c_g μ a b v q) := by
  show m_vr (if μ b q = v then μ a q else -2000000000)
  split
  · exact h
  · exact Or.inl rfl
def sp_X1_tallyZone : QP := fun ra μ K => match ra with
  | [.inl first, .inr (.inr b), .inr (.inr a), .inr (.inr this)] => this = 34 ∧ c_vn a ∧ c_vn b ∧ (15 ≤ first ∧ first ≤ 180) ∧ (∀ p : Int, 15 ≤ p → p ≤ 180 → m_vr (μ a p) ∧ m_vr (μ b p)) ∧ ∀ ν : QM, (∀ a j : Int, ¬ a = 35 → ν a j = μ a j) → c_tl (m_tr (c_g μ a b (μ b first)) (181 - first).toNat first (0, 0, 0, 0)) ν → m_tok (181 - first) (m_tr (c_g μ a b (μ b first)) (181 - first).toNat first (0, 0, 0, 0)) → K none ν
  | _ => False
theorem sp_X1_tallyZone_e (this a b first : Int) (μ : QM) (K : Option QV → QM → Prop) : sp_X1_tallyZone [.inl first, .inr (.inr b), .inr (.inr a), .inr (.inr this)] μ K = (this = 34 ∧ c_vn a ∧ c_vn b ∧ (15 ≤ first ∧ first ≤ 180) ∧ (∀ p : Int, 15 ≤ p → p ≤ 180 → m_vr (μ a p) ∧ m_vr (μ b p)) ∧ ∀ ν : QM, (∀ a j : Int, ¬ a = 35 → ν a j = μ a j) → c_tl (m_tr (c_g μ a b (μ b first)) (181 - first).toNat first (0, 0, 0, 0)) ν → m_tok (181 - first) (m_tr (c_g μ a b (μ b first)) (181 - first).toNat first (0, 0, 0, 0)) → K none ν) := propext Iff.rfl
theorem sp_X1_tallyZone_i {ra : List QV} {μ : QM} {K : Option QV → QM → Prop} (h : sp_X1_tallyZone ra μ K) : ∃ this a b first : Int, ra = [.inl first, .inr (.inr b), .inr (.inr a), .inr (.inr this)] ∧ (this = 34 ∧ c_vn a ∧ c_vn b ∧ (15 ≤ first ∧ first ≤ 180) ∧ (∀ p : Int, 15 ≤ p → p ≤ 180 → m_vr (μ a p) ∧ m_vr (μ b p)) ∧ ∀ ν : QM, (∀ a j : Int, ¬ a = 35 → ν a j = μ a j) → c_tl (m_tr (c_g μ a b (μ b first)) (181 - first).toNat first (0, 0, 0, 0)) ν → m_tok (181 - first) (m_tr (c_g μ a b (μ b first)) (181 - first).toNat first (0, 0, 0, 0)) → K none ν) := by
  unfold sp_X1_tallyZone at h
  split at h
  · exact ⟨_, _, _, _, rfl, h⟩
  · exact h.elim
def rm_X1_tallyZone : Room := { frames := 1, cells := 0, slots := 0, locals := 21 }
def G_X1_tallyZone : Nat → Nat × QP := fun i => match i with
  | 123 => (1, sp_X6_clear)
  | 126 => (2, sp_X6_take)
  | _ => (0, fun _ _ _ => False)
theorem G_X1_tallyZone_123 : G_X1_tallyZone 123 = (1, sp_X6_clear) := id rfl
theorem G_X1_tallyZone_126 : G_X1_tallyZone 126 = (2, sp_X6_take) := id rfl
theorem tz_10 {Rt : Option QV → QM → Prop} {S : Nat → QL → List QV → QM → Prop} (hR : q_Rule cX1_tallyZone 5 u_X1_tallyZone fl_X1 ld_X1 G_X1_tallyZone q_T 4 s_X1_tallyZone Rt S) {μ : QM} {a b first : Int} (ha : c_vn a) (hb : c_vn b) (hf : 15 ≤ first ∧ first ≤ 180) (hv : ∀ p : Int, 15 ≤ p → p ≤ 180 → m_vr (μ a p) ∧ m_vr (μ b p)) : ∀ (d : Nat) (p : Int) (s : QT) (n : Int) (ν : QM), first ≤ p → p + d = 181 → (∀ a j : Int, ¬ a = 35 → ν a j = μ a j) → c_tl s ν → m_tok n s → n + d ≤ 500 → (∀ ν : QM, (∀ a j : Int, ¬ a = 35 → ν a j = μ a j) → c_tl (m_tr (c_g μ a b (μ b first)) d p s) ν → m_tok (n + d) (m_tr (c_g μ a b (μ b first)) d p s) → Rt none ν) → S 10 [some (.inr (.inr 34)), some (.inr (.inr a)), some (.inr (.inr b)), some (.inl first), some (.inl p)] [] ν := by
  intro d
  have hTa := T_vn ha
  have hTb := T_vn hb
  induction d with
  | zero =>
    intro p s n ν h1 h2 f t hn hl hk
    refine hR 60 b_X1_tallyZone_10 10 _ _ _ o_X1_tallyZone_10 ?_
    simp only [v_opt_n, v_opt_s, v_nil, v_iconst, v_bipush, v_sipush, v_lconst0, v_lconst1, v_ldc, v_ldcw, v_ldc2, v_iload0, v_iload1, v_iload2, v_iload3, v_iload, v_lload0, v_lload1, v_lload2, v_lload3, v_lload, v_aload0, v_aload1, v_aload2, v_aload3, v_aload, v_istore0, v_istore1, v_istore2, v_istore3, v_istore, v_lstore0, v_lstore1, v_lstore2, v_lstore3, v_lstore, v_astore0, v_astore1, v_astore2, v_astore3, v_astore, v_iinc, v_iadd, v_isub, v_imul, v_iand, v_ior, v_ixor, v_ishl, v_ishr, v_iushr, v_ineg, v_idiv, v_irem, v_ladd, v_lsub, v_lmul, v_lcmp, v_i2l, v_l2i, v_i2c, v_dup, v_dup2, v_if_eq, v_if_ne, v_if_lt, v_if_ge, v_if_gt, v_if_le, v_ic_eq, v_ic_ne, v_ic_lt, v_ic_ge, v_ic_gt, v_ic_le, v_goto, v_tsw, v_lsw, v_ireturn, v_areturn, v_return, v_iaload, v_laload, v_baload, v_caload, v_aaload, v_iastore, v_lastore, v_bastore, v_castore, v_alen, v_invvi, v_invst, v_invsp, e_int, e_lng, e_ref, e_lg0, e_lg1, e_lg2, e_lg3, e_lg4, e_lg5, e_lg6, e_lg7, e_lg8, e_lg9, e_lg10, e_lg11, e_lg12, e_lg13, e_clrI, e_clrJ, e_clrP, e_clrN, e_s0, e_s1, e_s2, e_s3, e_s4, e_s5, e_s6, e_s7, e_s8, e_s9, e_s10, e_s11, e_s12, e_s13, e_t0, e_t1, e_t2, e_t3, e_t4, e_t5, e_t6, e_t7, e_t8, e_t9, e_t10, e_t11, e_t12, e_t13, e_fd, e_kk, e_k0, e_k1, e_k2, e_k3, e_k4, e_k5, e_k6, e_k7, e_k8, e_k9, e_sv0, e_sv1, e_sv2, e_sv3, e_svc, e_pf0, e_pf1, e_pf2, e_pf3, e_ar, e_aa, e_al, e_sw1, e_sw2, e_ct0, e_ct1, e_ct2, e_cat0, e_cat1, e_rk0, e_rk1, e_rk2, e_inv0, e_inv1, e_inv2, e_inv3, e_inv4, e_inv5, e_inv6, e_o0, e_o1, e_cl, e_cle, e_cg, e_cge, e_ce, e_cr1, e_cr2, e_r, e_R, e_up, Int.cast_ofNat_Int, u_app, false_and, and_false, e_b0, e_b1, e_bn, e_bl, e_bu, Int.reduceLE, Int.reduceLT, Int.reduceEq, Int.reduceNeg, Int.reduceAdd, Int.reduceSub, Int.reduceMul, Nat.reduceLeDiff, Nat.reduceLT, Nat.reduceAdd, Nat.reduceEqDiff, true_and, and_true, true_or, or_true, false_or, or_false, forall_const, not_true_eq_false, not_false_eq_true, true_implies, false_implies, implies_true, and_self, zero_ne_one, one_ne_zero, eq_self, reduceIte, s_X1_tallyZone_0, b_X1_tallyZone_0, s_X1_tallyZone_10, b_X1_tallyZone_10, s_X1_tallyZone_18, b_X1_tallyZone_18, s_X1_tallyZone_28, b_X1_tallyZone_28, s_X1_tallyZone_39, b_X1_tallyZone_39, s_X1_tallyZone_45, b_X1_tallyZone_45, g_X1_12, G_X1_tallyZone_123, sp_X6_clear_e, G_X1_tallyZone_126, sp_X6_take_e]
    exact ⟨by omega, fun _ => hk ν f t (by rw [show n + ((0 : Nat) : Int) = n by omega]; exact hn), fun c => by omega⟩
  | succ d ih =>
    intro p s n ν h1 h2 f t hn hl hk
    have ea : ν a p = μ a p := f a p (by omega)
    have eb : ν b p = μ b p := f b p (by omega)
    have ef : ν b first = μ b first := f b first (by omega)
    have v1 := hv p (by omega) (by omega)
    have v2 := hv first (by omega) (by omega)
    have hg := c_g_vr (b := b) (v := μ b first) v1.1
    have hk1 : ∀ ν : QM, (∀ a j : Int, ¬ a = 35 → ν a j = μ a j) → c_tl (m_tr (c_g μ a b (μ b first)) d (p + 1) (m_tk (c_g μ a b (μ b first) p) s)) ν → m_tok (n + 1 + d) (m_tr (c_g μ a b (μ b first)) d (p + 1) (m_tk (c_g μ a b (μ b first) p) s)) → Rt none ν := fun ν f t m => hk ν f t (by rw [show n + ((d + 1 : Nat) : Int) = n + 1 + (d : Int) by omega]; exact m)
    have hn1 := m_tok_s hg hn
    have ih1 := fun ν f t => ih (p + 1) (m_tk (c_g μ a b (μ b first) p) s) (n + 1) ν (by omega) (by omega) f t hn1 (by omega) hk1
    refine hR 60 b_X1_tallyZone_10 10 _ _ _ o_X1_tallyZone_10 ?_
    simp only [v_opt_n, v_opt_s, v_nil, v_iconst, v_bipush, v_sipush, v_lconst0, v_lconst1, v_ldc, v_ldcw, v_ldc2, v_iload0, v_iload1, v_iload2, v_iload3, v_iload, v_lload0, v_lload1, v_lload2, v_lload3, v_lload, v_aload0, v_aload1, v_aload2, v_aload3, v_aload, v_istore0, v_istore1, v_istore2, v_istore3, v_istore, v_lstore0, v_lstore1, v_lstore2, v_lstore3, v_lstore, v_astore0, v_astore1, v_astore2, v_astore3, v_astore, v_iinc, v_iadd, v_isub, v_imul, v_iand, v_ior, v_ixor, v_ishl, v_ishr, v_iushr, v_ineg, v_idiv, v_irem, v_ladd, v_lsub, v_lmul, v_lcmp, v_i2l, v_l2i, v_i2c, v_dup, v_dup2, v_if_eq, v_if_ne, v_if_lt, v_if_ge, v_if_gt, v_if_le, v_ic_eq, v_ic_ne, v_ic_lt, v_ic_ge, v_ic_gt, v_ic_le, v_goto, v_tsw, v_lsw, v_ireturn, v_areturn, v_return, v_iaload, v_laload, v_baload, v_caload, v_aaload, v_iastore, v_lastore, v_bastore, v_castore, v_alen, v_invvi, v_invst, v_invsp, e_int, e_lng, e_ref, e_lg0, e_lg1, e_lg2, e_lg3, e_lg4, e_lg5, e_lg6, e_lg7, e_lg8, e_lg9, e_lg10, e_lg11, e_lg12, e_lg13, e_clrI, e_clrJ, e_clrP, e_clrN, e_s0, e_s1, e_s2, e_s3, e_s4, e_s5, e_s6, e_s7, e_s8, e_s9, e_s10, e_s11, e_s12, e_s13, e_t0, e_t1, e_t2, e_t3, e_t4, e_t5, e_t6, e_t7, e_t8, e_t9, e_t10, e_t11, e_t12, e_t13, e_fd, e_kk, e_k0, e_k1, e_k2, e_k3, e_k4, e_k5, e_k6, e_k7, e_k8, e_k9, e_sv0, e_sv1, e_sv2, e_sv3, e_svc, e_pf0, e_pf1, e_pf2, e_pf3, e_ar, e_aa, e_al, e_sw1, e_sw2, e_ct0, e_ct1, e_ct2, e_cat0, e_cat1, e_rk0, e_rk1, e_rk2, e_inv0, e_inv1, e_inv2, e_inv3, e_inv4, e_inv5, e_inv6, e_o0, e_o1, e_cl, e_cle, e_cg, e_cge, e_ce, e_cr1, e_cr2, e_r, e_R, e_up, Int.cast_ofNat_Int, u_app, false_and, and_false, e_b0, e_b1, e_bn, e_bl, e_bu, Int.reduceLE, Int.reduceLT, Int.reduceEq, Int.reduceNeg, Int.reduceAdd, Int.reduceSub, Int.reduceMul, Nat.reduceLeDiff, Nat.reduceLT, Nat.reduceAdd, Nat.reduceEqDiff, true_and, and_true, true_or, or_true, false_or, or_false, forall_const, not_true_eq_false, not_false_eq_true, true_implies, false_implies, implies_true, and_self, zero_ne_one, one_ne_zero, eq_self, reduceIte, s_X1_tallyZone_0, b_X1_tallyZone_0, s_X1_tallyZone_10, b_X1_tallyZone_10, s_X1_tallyZone_18, b_X1_tallyZone_18, s_X1_tallyZone_28, b_X1_tallyZone_28, s_X1_tallyZone_39, b_X1_tallyZone_39, s_X1_tallyZone_45, b_X1_tallyZone_45, g_X1_12, G_X1_tallyZone_123, sp_X6_clear_e, G_X1_tallyZone_126, sp_X6_take_e, hTa, hTb, ea, eb, ef]
    refine ⟨by omega, fun c => by omega, fun c => ⟨by omega, by omega, by omega, by omega, by omega, by omega, by omega, fun c1 => ?_, fun c1 => ?_⟩⟩
    · have e : c_g μ a b (μ b first) p = -2000000000 := if_neg c1
      rw [e, m_tk_g] at ih1
      exact ih1 ν f t
    · have e : c_g μ a b (μ b first) p = μ a p := if_pos c1
      rw [e] at ih1
      exact ⟨by omega, by omega, by omega, v1.1, s, n, hn, by omega, t, fun ν' f' t' => ih1 ν' (fun a j na => (f' a j na).trans (f a j na)) t'⟩
set_option maxRecDepth 100000 in
set_option maxHeartbeats 4000000 in
theorem B_X1_tallyZone : q_Body cX1_tallyZone 5 u_X1_tallyZone fl_X1 ld_X1 G_X1_tallyZone q_T 4 s_X1_tallyZone sp_X1_tallyZone := by
  intro S Rt hR ra μ h
  obtain ⟨this, a, b, first, rfl, h⟩ := sp_X1_tallyZone_i h
  refine ⟨by simp [q_sl, q_ct], ?_⟩
  show S 0 [some (.inr (.inr this)), some (.inr (.inr a)), some (.inr (.inr b)), some (.inl first), none] [] μ
  obtain ⟨rfl, ha, hb, hf, hv, hk⟩ := h
  refine hR 40 [] 0 _ _ _ rfl ?_
  simp only [v_opt_n, v_opt_s, v_nil, v_iconst, v_bipush, v_sipush, v_lconst0, v_lconst1, v_ldc, v_ldcw, v_ldc2, v_iload0, v_iload1, v_iload2, v_iload3, v_iload, v_lload0, v_lload1, v_lload2, v_lload3, v_lload, v_aload0, v_aload1, v_aload2, v_aload3, v_aload, v_istore0, v_istore1, v_istore2, v_istore3, v_istore, v_lstore0, v_lstore1, v_lstore2, v_lstore3, v_lstore, v_astore0, v_astore1, v_astore2, v_astore3, v_astore, v_iinc, v_iadd, v_isub, v_imul, v_iand, v_ior, v_ixor, v_ishl, v_ishr, v_iushr, v_ineg, v_idiv, v_irem, v_ladd, v_lsub, v_lmul, v_lcmp, v_i2l, v_l2i, v_i2c, v_dup, v_dup2, v_if_eq, v_if_ne, v_if_lt, v_if_ge, v_if_gt, v_if_le, v_ic_eq, v_ic_ne, v_ic_lt, v_ic_ge, v_ic_gt, v_ic_le, v_goto, v_tsw, v_lsw, v_ireturn, v_areturn, v_return, v_iaload, v_laload, v_baload, v_caload, v_aaload, v_iastore, v_lastore, v_bastore, v_castore, v_alen, v_invvi, v_invst, v_invsp, e_int, e_lng, e_ref, e_lg0, e_lg1, e_lg2, e_lg3, e_lg4, e_lg5, e_lg6, e_lg7, e_lg8, e_lg9, e_lg10, e_lg11, e_lg12, e_lg13, e_clrI, e_clrJ, e_clrP, e_clrN, e_s0, e_s1, e_s2, e_s3, e_s4, e_s5, e_s6, e_s7, e_s8, e_s9, e_s10, e_s11, e_s12, e_s13, e_t0, e_t1, e_t2, e_t3, e_t4, e_t5, e_t6, e_t7, e_t8, e_t9, e_t10, e_t11, e_t12, e_t13, e_fd, e_kk, e_k0, e_k1, e_k2, e_k3, e_k4, e_k5, e_k6, e_k7, e_k8, e_k9, e_sv0, e_sv1, e_sv2, e_sv3, e_svc, e_pf0, e_pf1, e_pf2, e_pf3, e_ar, e_aa, e_al, e_sw1, e_sw2, e_ct0, e_ct1, e_ct2, e_cat0, e_cat1, e_rk0, e_rk1, e_rk2, e_inv0, e_inv1, e_inv2, e_inv3, e_inv4, e_inv5, e_inv6, e_o0, e_o1, e_cl, e_cle, e_cg, e_cge, e_ce, e_cr1, e_cr2, e_r, e_R, e_up, Int.cast_ofNat_Int, u_app, false_and, and_false, e_b0, e_b1, e_bn, e_bl, e_bu, Int.reduceLE, Int.reduceLT, Int.reduceEq, Int.reduceNeg, Int.reduceAdd, Int.reduceSub, Int.reduceMul, Nat.reduceLeDiff, Nat.reduceLT, Nat.reduceAdd, Nat.reduceEqDiff, true_and, and_true, true_or, or_true, false_or, or_false, forall_const, not_true_eq_false, not_false_eq_true, true_implies, false_implies, implies_true, and_self, zero_ne_one, one_ne_zero, eq_self, reduceIte, s_X1_tallyZone_0, b_X1_tallyZone_0, s_X1_tallyZone_10, b_X1_tallyZone_10, s_X1_tallyZone_18, b_X1_tallyZone_18, s_X1_tallyZone_28, b_X1_tallyZone_28, s_X1_tallyZone_39, b_X1_tallyZone_39, s_X1_tallyZone_45, b_X1_tallyZone_45, g_X1_12, G_X1_tallyZone_123, sp_X6_clear_e, G_X1_tallyZone_126, sp_X6_take_e]
  intro ν f t
  refine tz_10 hR ha hb hf hv (181 - first).toNat first (0, 0, 0, 0) 0 ν (by omega) (by omega) f t m_tok_0 (by omega) (fun ν f t m => hk ν f t ?_)
  rw [show (0 : Int) + ((181 - first).toNat : Int) = 181 - first by omega] at m
  exact m
set_option maxRecDepth 100000 in
theorem C_X1_tallyZone {l : Launch} {ad : Int → Nat} {D : va_G} {cy : Nat → ClassId} {Z : State → Prop} (hZ : q_Zg ad Z) : q_Ct l q_T q_N ad D cy Z yX1_tallyZone cX1_tallyZone 5 none rm_X1_tallyZone sp_X1_tallyZone := by
  obtain ⟨hf, hg, hld⟩ := q_chkS k_X1_tallyZone
  refine q_met (rk := 4) q_wokT (by decide) rfl hf hg hld rfl (q_skS L_X1_tallyZone o_X1_tallyZone) ?_ ?_ ?_ ?_ B_X1_tallyZone
  · intro i hi; exact absurd hi List.not_mem_nil
  · intro i hi
    have hi : i = 123 ∨ i = 126 := by simpa [u_X1_tallyZone] using hi
    rcases hi with rfl | rfl
    · exact q_crV hZ.1 (C_X6_clear hZ) rv_X6_clear cm_X6_clear (by decide +kernel) (by decide +kernel) (by decide +kernel) (by decide +kernel) (by decide +kernel) ⟨rfl, rfl⟩ (by decide)
    · exact q_crV hZ.1 (C_X6_take hZ) rv_X6_take cm_X6_take (by decide +kernel) (by decide +kernel) (by decide +kernel) (by decide +kernel) (by decide +kernel) ⟨rfl, rfl⟩ (by decide)
  · intro i hi; exact absurd hi List.not_mem_nil
  · intro i hi; exact absurd hi List.not_mem_nil
theorem rv_X1_tallyZone : q_rcv q_T yX1_tallyZone.cls sp_X1_tallyZone := by
  intro ra μ K h
  obtain ⟨this, a, b, first, rfl, h⟩ := sp_X1_tallyZone_i h
  obtain rfl := h.1
  exact ⟨[.inl first, .inr (.inr b), .inr (.inr a)], 34, 1, _, _, rfl, T_34, rfl, rfl⟩
theorem cm_X1_tallyZone : Cond.code yX1_tallyZone cX1_tallyZone 5 none ∈ q_tb := by decide +kernel
def sp_X1_fillZone : QP := fun ra μ K => match ra with
  | [.inr (.inr out), .inl first, .inr (.inr b), .inl answer, .inr (.inr this)] => this = 34 ∧ c_vn b ∧ c_vn out ∧ ¬ b = out ∧ (15 ≤ first ∧ first ≤ 180) ∧ (∀ p : Int, 15 ≤ p → p ≤ 180 → q_r (μ b p)) ∧ ∀ ν : QM, (∀ a j : Int, ¬ a = out → ¬ a = 38 → ν a j = μ a j) → (∀ j : Int, ν out j = if first ≤ j ∧ j ≤ 180 ∧ μ b j = μ b first then answer else μ out j) → (∀ j : Int, ν 38 j = if first ≤ j ∧ j ≤ 180 ∧ μ b j = μ b first then 1 else μ 38 j) → K none ν
  | _ => False
theorem sp_X1_fillZone_e (this answer b first out : Int) (μ : QM) (K : Option QV → QM → Prop) : sp_X1_fillZone [.inr (.inr out), .inl first, .inr (.inr b), .inl answer, .inr (.inr this)] μ K = (this = 34 ∧ c_vn b ∧ c_vn out ∧ ¬ b = out ∧ (15 ≤ first ∧ first ≤ 180) ∧ (∀ p : Int, 15 ≤ p → p ≤ 180 → q_r (μ b p)) ∧ ∀ ν : QM, (∀ a j : Int, ¬ a = out → ¬ a = 38 → ν a j = μ a j) → (∀ j : Int, ν out j = if first ≤ j ∧ j ≤ 180 ∧ μ b j = μ b first then answer else μ out j) → (∀ j : Int, ν 38 j = if first ≤ j ∧ j ≤ 180 ∧ μ b j = μ b first then 1 else μ 38 j) → K none ν) := propext Iff.rfl
theorem sp_X1_fillZone_i {ra : List QV} {μ : QM} {K : Option QV → QM → Prop} (h : sp_X1_fillZone ra μ K) : ∃ this answer b first out : Int, ra = [.inr (.inr out), .inl first, .inr (.inr b), .inl answer, .inr (.inr this)] ∧ (this = 34 ∧ c_vn b ∧ c_vn out ∧ ¬ b = out ∧ (15 ≤ first ∧ first ≤ 180) ∧ (∀ p : Int, 15 ≤ p → p ≤ 180 → q_r (μ b p)) ∧ ∀ ν : QM, (∀ a j : Int, ¬ a = out → ¬ a = 38 → ν a j = μ a j) → (∀ j : Int, ν out j = if first ≤ j ∧ j ≤ 180 ∧ μ b j = μ b first then answer else μ out j) → (∀ j : Int, ν 38 j = if first ≤ j ∧ j ≤ 180 ∧ μ b j = μ b first then 1 else μ 38 j) → K none ν) := by
  unfold sp_X1_fillZone at h
  split at h
  · exact ⟨_, _, _, _, _, rfl, h⟩
  · exact h.elim
def rm_X1_fillZone : Room := { frames := 0, cells := 0, slots := 0, locals := 0 }
def G_X1_fillZone : Nat → Nat × QP := fun i => match i with
  | _ => (0, fun _ _ _ => False)
theorem fz_3 {Rt : Option QV → QM → Prop} {S : Nat → QL → List QV → QM → Prop} (hR : q_Rule cX1_fillZone 6 u_X1_fillZone fl_X1 ld_X1 G_X1_fillZone q_T 4 s_X1_fillZone Rt S) {μ : QM} {ans b first out : Int} (hb : c_vn b) (ho : c_vn out) (hne : ¬ b = out) (hf : 15 ≤ first ∧ first ≤ 180) (hv : ∀ p : Int, 15 ≤ p → p ≤ 180 → q_r (μ b p)) (hk : ∀ ν : QM, (∀ a j : Int, ¬ a = out → ¬ a = 38 → ν a j = μ a j) → (∀ j : Int, ν out j = if first ≤ j ∧ j ≤ 180 ∧ μ b j = μ b first then ans else μ out j) → (∀ j : Int, ν 38 j = if first ≤ j ∧ j ≤ 180 ∧ μ b j = μ b first then 1 else μ 38 j) → Rt none ν) : ∀ (d : Nat) (p : Int) (ν : QM), first ≤ p → p + d = 181 → (∀ a j : Int, ¬ a = out → ¬ a = 38 → ν a j = μ a j) → (∀ j : Int, ν out j = if first ≤ j ∧ j < p ∧ μ b j = μ b first then ans else μ out j) → (∀ j : Int, ν 38 j = if first ≤ j ∧ j < p ∧ μ b j = μ b first then 1 else μ 38 j) → S 3 [some (.inr (.inr 34)), some (.inl ans), some (.inr (.inr b)), some (.inl first), some (.inr (.inr out)), some (.inl p)] [] ν := by
  intro d
  have hTo := T_vn ho
  have hTb := T_vn hb
  induction d with
  | zero =>
    intro p ν h1 h2 f g1 g2
    obtain rfl : p = 181 := by omega
    refine hR 60 b_X1_fillZone_3 3 _ _ _ o_X1_fillZone_3 ?_
    simp only [v_opt_n, v_opt_s, v_nil, v_iconst, v_bipush, v_sipush, v_lconst0, v_lconst1, v_ldc, v_ldcw, v_ldc2, v_iload0, v_iload1, v_iload2, v_iload3, v_iload, v_lload0, v_lload1, v_lload2, v_lload3, v_lload, v_aload0, v_aload1, v_aload2, v_aload3, v_aload, v_istore0, v_istore1, v_istore2, v_istore3, v_istore, v_lstore0, v_lstore1, v_lstore2, v_lstore3, v_lstore, v_astore0, v_astore1, v_astore2, v_astore3, v_astore, v_iinc, v_iadd, v_isub, v_imul, v_iand, v_ior, v_ixor, v_ishl, v_ishr, v_iushr, v_ineg, v_idiv, v_irem, v_ladd, v_lsub, v_lmul, v_lcmp, v_i2l, v_l2i, v_i2c, v_dup, v_dup2, v_if_eq, v_if_ne, v_if_lt, v_if_ge, v_if_gt, v_if_le, v_ic_eq, v_ic_ne, v_ic_lt, v_ic_ge, v_ic_gt, v_ic_le, v_goto, v_tsw, v_lsw, v_ireturn, v_areturn, v_return, v_iaload, v_laload, v_baload, v_caload, v_aaload, v_iastore, v_lastore, v_bastore, v_castore, v_alen, v_invvi, v_invst, v_invsp, e_int, e_lng, e_ref, e_lg0, e_lg1, e_lg2, e_lg3, e_lg4, e_lg5, e_lg6, e_lg7, e_lg8, e_lg9, e_lg10, e_lg11, e_lg12, e_lg13, e_clrI, e_clrJ, e_clrP, e_clrN, e_s0, e_s1, e_s2, e_s3, e_s4, e_s5, e_s6, e_s7, e_s8, e_s9, e_s10, e_s11, e_s12, e_s13, e_t0, e_t1, e_t2, e_t3, e_t4, e_t5, e_t6, e_t7, e_t8, e_t9, e_t10, e_t11, e_t12, e_t13, e_fd, e_kk, e_k0, e_k1, e_k2, e_k3, e_k4, e_k5, e_k6, e_k7, e_k8, e_k9, e_sv0, e_sv1, e_sv2, e_sv3, e_svc, e_pf0, e_pf1, e_pf2, e_pf3, e_ar, e_aa, e_al, e_sw1, e_sw2, e_ct0, e_ct1, e_ct2, e_cat0, e_cat1, e_rk0, e_rk1, e_rk2, e_inv0, e_inv1, e_inv2, e_inv3, e_inv4, e_inv5, e_inv6, e_o0, e_o1, e_cl, e_cle, e_cg, e_cge, e_ce, e_cr1, e_cr2, e_r, e_R, e_up, Int.cast_ofNat_Int, u_app, false_and, and_false, e_b0, e_b1, e_bn, e_bl, e_bu, Int.reduceLE, Int.reduceLT, Int.reduceEq, Int.reduceNeg, Int.reduceAdd, Int.reduceSub, Int.reduceMul, Nat.reduceLeDiff, Nat.reduceLT, Nat.reduceAdd, Nat.reduceEqDiff, true_and, and_true, true_or, or_true, false_or, or_false, forall_const, not_true_eq_false, not_false_eq_true, true_implies, false_implies, implies_true, and_self, zero_ne_one, one_ne_zero, eq_self, reduceIte, s_X1_fillZone_0, b_X1_fillZone_0, s_X1_fillZone_3, b_X1_fillZone_3, s_X1_fillZone_11, b_X1_fillZone_11, s_X1_fillZone_21, b_X1_fillZone_21, s_X1_fillZone_35, b_X1_fillZone_35, s_X1_fillZone_41, b_X1_fillZone_41, g_X1_25]
    refine hk ν f (fun j => ?_) (fun j => ?_)
    · rw [g1 j]
      by_cases c : first ≤ j ∧ j < 181 ∧ μ b j = μ b first
      · rw [if_pos c, if_pos (by omega)]
      · rw [if_neg c, if_neg (by omega)]
    · rw [g2 j]
      by_cases c : first ≤ j ∧ j < 181 ∧ μ b j = μ b first
      · rw [if_pos c, if_pos (by omega)]
      · rw [if_neg c, if_neg (by omega)]
  | succ d ih =>
    intro p ν h1 h2 f g1 g2
    have eb : ν b p = μ b p := f b p hne (by omega)
    have ef : ν b first = μ b first := f b first hne (by omega)
    have v1 := hv p (by omega) (by omega)
    have v2 := hv first (by omega) (by omega)
    refine hR 60 b_X1_fillZone_3 3 _ _ _ o_X1_fillZone_3 ?_
    simp only [v_opt_n, v_opt_s, v_nil, v_iconst, v_bipush, v_sipush, v_lconst0, v_lconst1, v_ldc, v_ldcw, v_ldc2, v_iload0, v_iload1, v_iload2, v_iload3, v_iload, v_lload0, v_lload1, v_lload2, v_lload3, v_lload, v_aload0, v_aload1, v_aload2, v_aload3, v_aload, v_istore0, v_istore1, v_istore2, v_istore3, v_istore, v_lstore0, v_lstore1, v_lstore2, v_lstore3, v_lstore, v_astore0, v_astore1, v_astore2, v_astore3, v_astore, v_iinc, v_iadd, v_isub, v_imul, v_iand, v_ior, v_ixor, v_ishl, v_ishr, v_iushr, v_ineg, v_idiv, v_irem, v_ladd, v_lsub, v_lmul, v_lcmp, v_i2l, v_l2i, v_i2c, v_dup, v_dup2, v_if_eq, v_if_ne, v_if_lt, v_if_ge, v_if_gt, v_if_le, v_ic_eq, v_ic_ne, v_ic_lt, v_ic_ge, v_ic_gt, v_ic_le, v_goto, v_tsw, v_lsw, v_ireturn, v_areturn, v_return, v_iaload, v_laload, v_baload, v_caload, v_aaload, v_iastore, v_lastore, v_bastore, v_castore, v_alen, v_invvi, v_invst, v_invsp, e_int, e_lng, e_ref, e_lg0, e_lg1, e_lg2, e_lg3, e_lg4, e_lg5, e_lg6, e_lg7, e_lg8, e_lg9, e_lg10, e_lg11, e_lg12, e_lg13, e_clrI, e_clrJ, e_clrP, e_clrN, e_s0, e_s1, e_s2, e_s3, e_s4, e_s5, e_s6, e_s7, e_s8, e_s9, e_s10, e_s11, e_s12, e_s13, e_t0, e_t1, e_t2, e_t3, e_t4, e_t5, e_t6, e_t7, e_t8, e_t9, e_t10, e_t11, e_t12, e_t13, e_fd, e_kk, e_k0, e_k1, e_k2, e_k3, e_k4, e_k5, e_k6, e_k7, e_k8, e_k9, e_sv0, e_sv1, e_sv2, e_sv3, e_svc, e_pf0, e_pf1, e_pf2, e_pf3, e_ar, e_aa, e_al, e_sw1, e_sw2, e_ct0, e_ct1, e_ct2, e_cat0, e_cat1, e_rk0, e_rk1, e_rk2, e_inv0, e_inv1, e_inv2, e_inv3, e_inv4, e_inv5, e_inv6, e_o0, e_o1, e_cl, e_cle, e_cg, e_cge, e_ce, e_cr1, e_cr2, e_r, e_R, e_up, Int.cast_ofNat_Int, u_app, false_and, and_false, e_b0, e_b1, e_bn, e_bl, e_bu, Int.reduceLE, Int.reduceLT, Int.reduceEq, Int.reduceNeg, Int.reduceAdd, Int.reduceSub, Int.reduceMul, Nat.reduceLeDiff, Nat.reduceLT, Nat.reduceAdd, Nat.reduceEqDiff, true_and, and_true, true_or, or_true, false_or, or_false, forall_const, not_true_eq_false, not_false_eq_true, true_implies, false_implies, implies_true, and_self, zero_ne_one, one_ne_zero, eq_self, reduceIte, s_X1_fillZone_0, b_X1_fillZone_0, s_X1_fillZone_3, b_X1_fillZone_3, s_X1_fillZone_11, b_X1_fillZone_11, s_X1_fillZone_21, b_X1_fillZone_21, s_X1_fillZone_35, b_X1_fillZone_35, s_X1_fillZone_41, b_X1_fillZone_41, g_X1_25, hTo, hTb, eb, ef, T_38]
    refine ⟨by omega, fun c => by omega, fun c => ⟨by omega, by omega, by omega, by omega, by omega, by omega, ⟨v1, v2⟩, fun c1 => ih (p + 1) ν (by omega) (by omega) f (fun j => ?_) (fun j => ?_), fun c1 => ?_⟩⟩
    · rw [g1 j]
      by_cases c3 : first ≤ j ∧ j < p ∧ μ b j = μ b first
      · rw [if_pos c3, if_pos (by omega)]
      · rw [if_neg c3, if_neg (fun q => c3 ⟨q.1, by
          have : ¬ j = p := fun e => c1 (by rw [← e]; exact q.2.2)
          omega, q.2.2⟩)]
    · rw [g2 j]
      by_cases c3 : first ≤ j ∧ j < p ∧ μ b j = μ b first
      · rw [if_pos c3, if_pos (by omega)]
      · rw [if_neg c3, if_neg (fun q => c3 ⟨q.1, by
          have : ¬ j = p := fun e => c1 (by rw [← e]; exact q.2.2)
          omega, q.2.2⟩)]
    · refine ⟨by omega, by omega, by omega, by omega, by omega, ih (p + 1) _ (by omega) (by omega) (fun a j n1 n2 => ?_) (fun j => ?_) (fun j => ?_)⟩
      · rw [u_app, if_neg (by omega), u_app, if_neg (by omega)]
        exact f a j n1 n2
      · rw [u_app, if_neg (by omega), u_app]
        by_cases c3 : j = p
        · rw [if_pos ⟨rfl, c3⟩, if_pos ⟨by omega, by omega, by rw [c3]; exact c1⟩]
        · rw [if_neg (fun q => c3 q.2), g1 j]
          by_cases c4 : first ≤ j ∧ j < p ∧ μ b j = μ b first
          · rw [if_pos c4, if_pos (by omega)]
          · rw [if_neg c4, if_neg (by omega)]
      · rw [u_app]
        by_cases c3 : j = p
        · rw [if_pos ⟨rfl, c3⟩, if_pos ⟨by omega, by omega, by rw [c3]; exact c1⟩]
        · rw [if_neg (fun q => c3 q.2), u_app, if_neg (by omega), g2 j]
          by_cases c4 : first ≤ j ∧ j < p ∧ μ b j = μ b first
          · rw [if_pos c4, if_pos (by omega)]
          · rw [if_neg c4, if_neg (by omega)]
set_option maxRecDepth 100000 in
set_option maxHeartbeats 4000000 in
theorem B_X1_fillZone : q_Body cX1_fillZone 6 u_X1_fillZone fl_X1 ld_X1 G_X1_fillZone q_T 4 s_X1_fillZone sp_X1_fillZone := by
  intro S Rt hR ra μ h
  obtain ⟨this, answer, b, first, out, rfl, h⟩ := sp_X1_fillZone_i h
  refine ⟨by simp [q_sl, q_ct], ?_⟩
  show S 0 [some (.inr (.inr this)), some (.inl answer), some (.inr (.inr b)), some (.inl first), some (.inr (.inr out)), none] [] μ
  obtain ⟨rfl, hb, ho, hne, hf, hv, hk⟩ := h
  refine hR 40 [] 0 _ _ _ rfl ?_
  simp only [v_opt_n, v_opt_s, v_nil, v_iconst, v_bipush, v_sipush, v_lconst0, v_lconst1, v_ldc, v_ldcw, v_ldc2, v_iload0, v_iload1, v_iload2, v_iload3, v_iload, v_lload0, v_lload1, v_lload2, v_lload3, v_lload, v_aload0, v_aload1, v_aload2, v_aload3, v_aload, v_istore0, v_istore1, v_istore2, v_istore3, v_istore, v_lstore0, v_lstore1, v_lstore2, v_lstore3, v_lstore, v_astore0, v_astore1, v_astore2, v_astore3, v_astore, v_iinc, v_iadd, v_isub, v_imul, v_iand, v_ior, v_ixor, v_ishl, v_ishr, v_iushr, v_ineg, v_idiv, v_irem, v_ladd, v_lsub, v_lmul, v_lcmp, v_i2l, v_l2i, v_i2c, v_dup, v_dup2, v_if_eq, v_if_ne, v_if_lt, v_if_ge, v_if_gt, v_if_le, v_ic_eq, v_ic_ne, v_ic_lt, v_ic_ge, v_ic_gt, v_ic_le, v_goto, v_tsw, v_lsw, v_ireturn, v_areturn, v_return, v_iaload, v_laload, v_baload, v_caload, v_aaload, v_iastore, v_lastore, v_bastore, v_castore, v_alen, v_invvi, v_invst, v_invsp, e_int, e_lng, e_ref, e_lg0, e_lg1, e_lg2, e_lg3, e_lg4, e_lg5, e_lg6, e_lg7, e_lg8, e_lg9, e_lg10, e_lg11, e_lg12, e_lg13, e_clrI, e_clrJ, e_clrP, e_clrN, e_s0, e_s1, e_s2, e_s3, e_s4, e_s5, e_s6, e_s7, e_s8, e_s9, e_s10, e_s11, e_s12, e_s13, e_t0, e_t1, e_t2, e_t3, e_t4, e_t5, e_t6, e_t7, e_t8, e_t9, e_t10, e_t11, e_t12, e_t13, e_fd, e_kk, e_k0, e_k1, e_k2, e_k3, e_k4, e_k5, e_k6, e_k7, e_k8, e_k9, e_sv0, e_sv1, e_sv2, e_sv3, e_svc, e_pf0, e_pf1, e_pf2, e_pf3, e_ar, e_aa, e_al, e_sw1, e_sw2, e_ct0, e_ct1, e_ct2, e_cat0, e_cat1, e_rk0, e_rk1, e_rk2, e_inv0, e_inv1, e_inv2, e_inv3, e_inv4, e_inv5, e_inv6, e_o0, e_o1, e_cl, e_cle, e_cg, e_cge, e_ce, e_cr1, e_cr2, e_r, e_R, e_up, Int.cast_ofNat_Int, u_app, false_and, and_false, e_b0, e_b1, e_bn, e_bl, e_bu, Int.reduceLE, Int.reduceLT, Int.reduceEq, Int.reduceNeg, Int.reduceAdd, Int.reduceSub, Int.reduceMul, Nat.reduceLeDiff, Nat.reduceLT, Nat.reduceAdd, Nat.reduceEqDiff, true_and, and_true, true_or, or_true, false_or, or_false, forall_const, not_true_eq_false, not_false_eq_true, true_implies, false_implies, implies_true, and_self, zero_ne_one, one_ne_zero, eq_self, reduceIte, s_X1_fillZone_0, b_X1_fillZone_0, s_X1_fillZone_3, b_X1_fillZone_3, s_X1_fillZone_11, b_X1_fillZone_11, s_X1_fillZone_21, b_X1_fillZone_21, s_X1_fillZone_35, b_X1_fillZone_35, s_X1_fillZone_41, b_X1_fillZone_41, g_X1_25]
  refine fz_3 hR hb ho hne hf hv hk (181 - first).toNat first μ (by omega) (by omega) (fun _ _ _ _ => rfl) (fun j => ?_) (fun j => ?_)
  · rw [if_neg (by omega)]
  · rw [if_neg (by omega)]
set_option maxRecDepth 100000 in
theorem C_X1_fillZone {l : Launch} {ad : Int → Nat} {D : va_G} {cy : Nat → ClassId} {Z : State → Prop} (hZ : q_Zg ad Z) : q_Ct l q_T q_N ad D cy Z yX1_fillZone cX1_fillZone 6 none rm_X1_fillZone sp_X1_fillZone := by
  obtain ⟨hf, hg, hld⟩ := q_chkS k_X1_fillZone
  refine q_met (rk := 4) q_wokT (by decide) rfl hf hg hld rfl (q_skS L_X1_fillZone o_X1_fillZone) ?_ ?_ ?_ ?_ B_X1_fillZone
  · intro i hi; exact absurd hi List.not_mem_nil
  · intro i hi; exact absurd hi List.not_mem_nil
  · intro i hi; exact absurd hi List.not_mem_nil
  · intro i hi; exact absurd hi List.not_mem_nil
theorem rv_X1_fillZone : q_rcv q_T yX1_fillZone.cls sp_X1_fillZone := by
  intro ra μ K h
  obtain ⟨this, answer, b, first, out, rfl, h⟩ := sp_X1_fillZone_i h
  obtain rfl := h.1
  exact ⟨[.inr (.inr out), .inl first, .inr (.inr b), .inl answer], 34, 1, _, _, rfl, T_34, rfl, rfl⟩
theorem cm_X1_fillZone : Cond.code yX1_fillZone cX1_fillZone 6 none ∈ q_tb := by decide +kernel

