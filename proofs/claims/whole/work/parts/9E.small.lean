/-! small worlds: the methods that constructors call -/
def sg_fill (T : Int → Option QS) : QP := fun ra μ K => match ra with
  | [.inl v, .inr (.inr a)] => ∃ n : Nat, T a = some (.inr (.inl 0, n)) ∧ n ≤ 2147483647 ∧ K none (fun b j => if b = a ∧ 0 ≤ j ∧ j < n then v else μ b j)
  | _ => False
theorem sg_fill_e (T : Int → Option QS) (a v : Int) (μ : QM) (K : Option QV → QM → Prop) : sg_fill T [.inl v, .inr (.inr a)] μ K = (∃ n : Nat, T a = some (.inr (.inl 0, n)) ∧ n ≤ 2147483647 ∧ K none (fun b j => if b = a ∧ 0 ≤ j ∧ j < n then v else μ b j)) := propext Iff.rfl
theorem sg_fill_i {T : Int → Option QS} {ra : List QV} {μ : QM} {K : Option QV → QM → Prop} (h : sg_fill T ra μ K) : ∃ a v : Int, ra = [.inl v, .inr (.inr a)] ∧ (∃ n : Nat, T a = some (.inr (.inl 0, n)) ∧ n ≤ 2147483647 ∧ K none (fun b j => if b = a ∧ 0 ≤ j ∧ j < n then v else μ b j)) := by
  unfold sg_fill at h
  split at h
  · exact ⟨_, _, rfl, h⟩
  · exact h.elim
def sg_clear (P : Int) : QP := fun ra μ K => match ra with
  | [.inr (.inr this)] => this = P ∧ q_pl P ∧ K none (q_fill (q_up μ P 2 0) (P + 2) 0 26 (-1))
  | _ => False
theorem sg_clear_i {P : Int} {ra : List QV} {μ : QM} {K : Option QV → QM → Prop} (h : sg_clear P ra μ K) : ra = [.inr (.inr P)] ∧ q_pl P ∧ K none (q_fill (q_up μ P 2 0) (P + 2) 0 26 (-1)) := by
  unfold sg_clear at h
  split at h
  · obtain ⟨rfl, h⟩ := h
    exact ⟨rfl, h⟩
  · exact h.elim
set_option maxRecDepth 100000 in
theorem J7_fill_loop_g {Rt : Option QV → QM → Prop} {S : Nat → QL → List QV → QM → Prop} {T : Int → Option QS} (hw0 : ∀ (a : Int) (sh : QS), T a = some sh → 0 ≤ a) (hR : q_Rule cJ7_fill_53178 4 u_J7_fill_53178 fl_J7 ld_J7 G_J7_fill_53178 T 4 s_J7_fill_53178 Rt S) {a v : Int} {m : Nat} (hT : T a = some (.inr (.inl 0, m))) (hm : m ≤ 2147483647) (h0 : 0 ≤ a) : ∀ (n : Nat) (i : Int) (μ : QM), 0 ≤ i → i ≤ m → m - i < n → Rt none (fun b j => if b = a ∧ i ≤ j ∧ j < m then v else μ b j) → S 5 [some (.inr (.inr a)), some (.inl v), some (.inl i), some (.inl m)] [] μ := by
  intro n
  induction n with
  | zero => intro i μ h1 h2 h3; omega
  | succ n ih =>
    intro i μ h1 h2 h3 h4
    refine hR 40 b_J7_fill_53178_5 5 _ _ _ o_J7_fill_53178_5 ?_
    simp only [v_opt_n, v_opt_s, v_nil, v_iconst, v_bipush, v_sipush, v_lconst0, v_lconst1, v_ldc, v_ldcw, v_ldc2, v_iload0, v_iload1, v_iload2, v_iload3, v_iload, v_lload0, v_lload1, v_lload2, v_lload3, v_lload, v_aload0, v_aload1, v_aload2, v_aload3, v_aload, v_istore0, v_istore1, v_istore2, v_istore3, v_istore, v_lstore0, v_lstore1, v_lstore2, v_lstore3, v_lstore, v_astore0, v_astore1, v_astore2, v_astore3, v_astore, v_iinc, v_iadd, v_isub, v_imul, v_iand, v_ior, v_ixor, v_ishl, v_ishr, v_iushr, v_ineg, v_idiv, v_irem, v_ladd, v_lsub, v_lmul, v_lcmp, v_i2l, v_l2i, v_i2c, v_dup, v_dup2, v_if_eq, v_if_ne, v_if_lt, v_if_ge, v_if_gt, v_if_le, v_ic_eq, v_ic_ne, v_ic_lt, v_ic_ge, v_ic_gt, v_ic_le, v_goto, v_tsw, v_lsw, v_ireturn, v_areturn, v_return, v_iaload, v_laload, v_baload, v_caload, v_aaload, v_iastore, v_lastore, v_bastore, v_castore, v_alen, v_invvi, v_invst, v_invsp, e_int, e_lng, e_ref, e_lg0, e_lg1, e_lg2, e_lg3, e_lg4, e_lg5, e_lg6, e_lg7, e_lg8, e_lg9, e_lg10, e_lg11, e_lg12, e_lg13, e_clrI, e_clrJ, e_clrP, e_clrN, e_s0, e_s1, e_s2, e_s3, e_s4, e_s5, e_s6, e_s7, e_s8, e_s9, e_s10, e_s11, e_s12, e_s13, e_t0, e_t1, e_t2, e_t3, e_t4, e_t5, e_t6, e_t7, e_t8, e_t9, e_t10, e_t11, e_t12, e_t13, e_fd, e_kk, e_k0, e_k1, e_k2, e_k3, e_k4, e_k5, e_k6, e_k7, e_k8, e_k9, e_sv0, e_sv1, e_sv2, e_sv3, e_svc, e_pf0, e_pf1, e_pf2, e_pf3, e_ar, e_aa, e_al, e_sw1, e_sw2, e_ct0, e_ct1, e_ct2, e_cat0, e_cat1, e_rk0, e_rk1, e_rk2, e_inv0, e_inv1, e_inv2, e_inv3, e_inv4, e_inv5, e_inv6, e_o0, e_o1, e_cl, e_cle, e_cg, e_cge, e_ce, e_cr1, e_cr2, e_r, e_R, e_up, Int.cast_ofNat_Int, u_app, false_and, and_false, e_b0, e_b1, e_bn, e_bl, e_bu, Int.reduceLE, Int.reduceLT, Int.reduceEq, Int.reduceNeg, Int.reduceAdd, Int.reduceSub, Int.reduceMul, Nat.reduceLeDiff, Nat.reduceLT, Nat.reduceAdd, Nat.reduceEqDiff, true_and, and_true, true_or, or_true, false_or, or_false, forall_const, not_true_eq_false, not_false_eq_true, true_implies, false_implies, implies_true, and_self, zero_ne_one, one_ne_zero, eq_self, reduceIte, v_getf, v_putf, s_J7_fill_53178_0, b_J7_fill_53178_0, s_J7_fill_53178_5, b_J7_fill_53178_5, s_J7_fill_53178_10, b_J7_fill_53178_10, s_J7_fill_53178_20, b_J7_fill_53178_20, hT]
    refine ⟨by omega, fun c => ?_, fun c => ?_⟩
    · have e : (fun b j => if b = a ∧ i ≤ j ∧ j < m then v else μ b j) = μ := by
        funext b j
        exact if_neg (by omega)
      rw [e] at h4
      exact h4
    · refine ⟨by omega, by omega, by omega, by omega, ?_⟩
      refine ih (i + 1) _ (by omega) (by omega) (by omega) ?_
      have e : (fun b j => if b = a ∧ i + 1 ≤ j ∧ j < m then v else q_up μ a i v b j) = (fun b j => if b = a ∧ i ≤ j ∧ j < m then v else μ b j) := by
        funext b j
        unfold q_up
        by_cases c1 : b = a ∧ i ≤ j ∧ j < m
        · rw [if_pos c1]
          by_cases c2 : j = i
          · rw [if_neg (by omega), if_pos ⟨c1.1, c2⟩]
          · rw [if_pos (by omega)]
        · rw [if_neg c1, if_neg (by omega), if_neg (by omega)]
      rw [e]
      exact h4
set_option maxRecDepth 100000 in
set_option maxHeartbeats 4000000 in
theorem Bg_J7_fill_53178 {T : Int → Option QS} (hw0 : ∀ (a : Int) (sh : QS), T a = some sh → 0 ≤ a) : q_Body cJ7_fill_53178 4 u_J7_fill_53178 fl_J7 ld_J7 G_J7_fill_53178 T 4 s_J7_fill_53178 (sg_fill T) := by
  intro S Rt hR ra μ h
  obtain ⟨a, v, rfl, h⟩ := sg_fill_i h
  refine ⟨by simp [q_sl, q_ct], ?_⟩
  show S 0 [some (.inr (.inr a)), some (.inl v), none, none] [] μ
  obtain ⟨n, hT, hn, h⟩ := h
  have ha : 0 ≤ a := hw0 a _ hT
  refine hR 40 [] 0 _ _ _ rfl ?_
  simp only [v_opt_n, v_opt_s, v_nil, v_iconst, v_bipush, v_sipush, v_lconst0, v_lconst1, v_ldc, v_ldcw, v_ldc2, v_iload0, v_iload1, v_iload2, v_iload3, v_iload, v_lload0, v_lload1, v_lload2, v_lload3, v_lload, v_aload0, v_aload1, v_aload2, v_aload3, v_aload, v_istore0, v_istore1, v_istore2, v_istore3, v_istore, v_lstore0, v_lstore1, v_lstore2, v_lstore3, v_lstore, v_astore0, v_astore1, v_astore2, v_astore3, v_astore, v_iinc, v_iadd, v_isub, v_imul, v_iand, v_ior, v_ixor, v_ishl, v_ishr, v_iushr, v_ineg, v_idiv, v_irem, v_ladd, v_lsub, v_lmul, v_lcmp, v_i2l, v_l2i, v_i2c, v_dup, v_dup2, v_if_eq, v_if_ne, v_if_lt, v_if_ge, v_if_gt, v_if_le, v_ic_eq, v_ic_ne, v_ic_lt, v_ic_ge, v_ic_gt, v_ic_le, v_goto, v_tsw, v_lsw, v_ireturn, v_areturn, v_return, v_iaload, v_laload, v_baload, v_caload, v_aaload, v_iastore, v_lastore, v_bastore, v_castore, v_alen, v_invvi, v_invst, v_invsp, e_int, e_lng, e_ref, e_lg0, e_lg1, e_lg2, e_lg3, e_lg4, e_lg5, e_lg6, e_lg7, e_lg8, e_lg9, e_lg10, e_lg11, e_lg12, e_lg13, e_clrI, e_clrJ, e_clrP, e_clrN, e_s0, e_s1, e_s2, e_s3, e_s4, e_s5, e_s6, e_s7, e_s8, e_s9, e_s10, e_s11, e_s12, e_s13, e_t0, e_t1, e_t2, e_t3, e_t4, e_t5, e_t6, e_t7, e_t8, e_t9, e_t10, e_t11, e_t12, e_t13, e_fd, e_kk, e_k0, e_k1, e_k2, e_k3, e_k4, e_k5, e_k6, e_k7, e_k8, e_k9, e_sv0, e_sv1, e_sv2, e_sv3, e_svc, e_pf0, e_pf1, e_pf2, e_pf3, e_ar, e_aa, e_al, e_sw1, e_sw2, e_ct0, e_ct1, e_ct2, e_cat0, e_cat1, e_rk0, e_rk1, e_rk2, e_inv0, e_inv1, e_inv2, e_inv3, e_inv4, e_inv5, e_inv6, e_o0, e_o1, e_cl, e_cle, e_cg, e_cge, e_ce, e_cr1, e_cr2, e_r, e_R, e_up, Int.cast_ofNat_Int, u_app, false_and, and_false, e_b0, e_b1, e_bn, e_bl, e_bu, Int.reduceLE, Int.reduceLT, Int.reduceEq, Int.reduceNeg, Int.reduceAdd, Int.reduceSub, Int.reduceMul, Nat.reduceLeDiff, Nat.reduceLT, Nat.reduceAdd, Nat.reduceEqDiff, true_and, and_true, true_or, or_true, false_or, or_false, forall_const, not_true_eq_false, not_false_eq_true, true_implies, false_implies, implies_true, and_self, zero_ne_one, one_ne_zero, eq_self, reduceIte, v_getf, v_putf, s_J7_fill_53178_0, b_J7_fill_53178_0, s_J7_fill_53178_5, b_J7_fill_53178_5, s_J7_fill_53178_10, b_J7_fill_53178_10, s_J7_fill_53178_20, b_J7_fill_53178_20, hT]
  refine ⟨ha, ?_⟩
  exact J7_fill_loop_g hw0 hR hT hn ha (n + 1) 0 μ (by omega) (by omega) (by omega) h
set_option maxRecDepth 100000 in
theorem Cg_J7_fill_53178 {l : Launch} {T : Int → Option QS} {N : List Int} {ad : Int → Nat} {D : va_G} {cy : Nat → ClassId} {Z : State → Prop} (hZ : q_Zok (q_A N ad) Z) (hw : q_wok T N) : q_Ct l T N ad D cy Z yJ7_fill_53178 cJ7_fill_53178 4 none rm_J7_fill_53178 (sg_fill T) := by
  obtain ⟨hf, hg, hld⟩ := q_chkS k_J7_fill_53178
  refine q_met (rk := 4) hw (by decide) rfl hf hg hld rfl (q_skS L_J7_fill_53178 o_J7_fill_53178) ?_ ?_ ?_ ?_ (Bg_J7_fill_53178 (fun a sh q => (hw.2.1 a sh q).2))
  · intro i hi; exact absurd hi List.not_mem_nil
  · intro i hi; exact absurd hi List.not_mem_nil
  · intro i hi; exact absurd hi List.not_mem_nil
  · intro i hi; exact absurd hi List.not_mem_nil
set_option maxRecDepth 100000 in
set_option maxHeartbeats 4000000 in
theorem Bg_X10_tileOf {T : Int → Option QS} : q_Body cX10_tileOf 2 u_X10_tileOf fl_X10 ld_X10 G_X10_tileOf T 0 s_X10_tileOf sp_X10_tileOf := by
  intro S Rt hR ra μ h
  obtain ⟨x, y, rfl, h⟩ := sp_X10_tileOf_i h
  refine ⟨by simp [q_sl, q_ct], ?_⟩
  show S 0 [some (.inl x), some (.inl y)] [] μ
  obtain ⟨h1, h2⟩ := h
  refine hR 40 [] 0 _ _ _ rfl ?_
  simp only [v_opt_n, v_opt_s, v_nil, v_iconst, v_bipush, v_sipush, v_lconst0, v_lconst1, v_ldc, v_ldcw, v_ldc2, v_iload0, v_iload1, v_iload2, v_iload3, v_iload, v_lload0, v_lload1, v_lload2, v_lload3, v_lload, v_aload0, v_aload1, v_aload2, v_aload3, v_aload, v_istore0, v_istore1, v_istore2, v_istore3, v_istore, v_lstore0, v_lstore1, v_lstore2, v_lstore3, v_lstore, v_astore0, v_astore1, v_astore2, v_astore3, v_astore, v_iinc, v_iadd, v_isub, v_imul, v_iand, v_ior, v_ixor, v_ishl, v_ishr, v_iushr, v_ineg, v_idiv, v_irem, v_ladd, v_lsub, v_lmul, v_lcmp, v_i2l, v_l2i, v_i2c, v_dup, v_dup2, v_if_eq, v_if_ne, v_if_lt, v_if_ge, v_if_gt, v_if_le, v_ic_eq, v_ic_ne, v_ic_lt, v_ic_ge, v_ic_gt, v_ic_le, v_goto, v_tsw, v_lsw, v_ireturn, v_areturn, v_return, v_iaload, v_laload, v_baload, v_caload, v_aaload, v_iastore, v_lastore, v_bastore, v_castore, v_alen, v_invvi, v_invst, v_invsp, e_int, e_lng, e_ref, e_lg0, e_lg1, e_lg2, e_lg3, e_lg4, e_lg5, e_lg6, e_lg7, e_lg8, e_lg9, e_lg10, e_lg11, e_lg12, e_lg13, e_clrI, e_clrJ, e_clrP, e_clrN, e_s0, e_s1, e_s2, e_s3, e_s4, e_s5, e_s6, e_s7, e_s8, e_s9, e_s10, e_s11, e_s12, e_s13, e_t0, e_t1, e_t2, e_t3, e_t4, e_t5, e_t6, e_t7, e_t8, e_t9, e_t10, e_t11, e_t12, e_t13, e_fd, e_kk, e_k0, e_k1, e_k2, e_k3, e_k4, e_k5, e_k6, e_k7, e_k8, e_k9, e_sv0, e_sv1, e_sv2, e_sv3, e_svc, e_pf0, e_pf1, e_pf2, e_pf3, e_ar, e_aa, e_al, e_sw1, e_sw2, e_ct0, e_ct1, e_ct2, e_cat0, e_cat1, e_rk0, e_rk1, e_rk2, e_inv0, e_inv1, e_inv2, e_inv3, e_inv4, e_inv5, e_inv6, e_o0, e_o1, e_cl, e_cle, e_cg, e_cge, e_ce, e_cr1, e_cr2, e_r, e_R, e_up, Int.cast_ofNat_Int, u_app, false_and, and_false, e_b0, e_b1, e_bn, e_bl, e_bu, Int.reduceLE, Int.reduceLT, Int.reduceEq, Int.reduceNeg, Int.reduceAdd, Int.reduceSub, Int.reduceMul, Nat.reduceLeDiff, Nat.reduceLT, Nat.reduceAdd, Nat.reduceEqDiff, true_and, and_true, true_or, or_true, false_or, or_false, forall_const, not_true_eq_false, not_false_eq_true, true_implies, false_implies, implies_true, and_self, zero_ne_one, one_ne_zero, eq_self, reduceIte, v_getf, v_putf, s_X10_tileOf_0, b_X10_tileOf_0]
  (repeat' (first | assumption | (refine And.intro ?_ ?_) | (intro _))) <;> first | omega | (exfalso; omega)
set_option maxRecDepth 100000 in
theorem Cg_X10_tileOf {l : Launch} {T : Int → Option QS} {N : List Int} {ad : Int → Nat} {D : va_G} {cy : Nat → ClassId} {Z : State → Prop} (hZ : q_Zok (q_A N ad) Z) (hw : q_wok T N) : q_Ct l T N ad D cy Z yX10_tileOf cX10_tileOf 2 (some .int) rm_X10_tileOf sp_X10_tileOf := by
  obtain ⟨hf, hg, hld⟩ := q_chkS k_X10_tileOf
  refine q_met (rk := 0) hw (by decide) rfl hf hg hld rfl (q_skS L_X10_tileOf o_X10_tileOf) ?_ ?_ ?_ ?_ (Bg_X10_tileOf)
  · intro i hi; exact absurd hi List.not_mem_nil
  · intro i hi; exact absurd hi List.not_mem_nil
  · intro i hi; exact absurd hi List.not_mem_nil
  · intro i hi; exact absurd hi List.not_mem_nil
theorem shape_x_g {Rt : Option QV → QM → Prop} {S : Nat → QL → List QV → QM → Prop} {T : Int → Option QS} (hT : ∀ a : Int, a = 1 → T a = q_T a) (hR : q_Rule cX0_shape 5 u_X0_shape fl_X0 ld_X0 G_X0_shape T 4 s_X0_shape Rt S) {w h a : Int} {μ : QM} (hd : m_dim w h) (ha : 0 ≤ a ∧ 4 * a < h) (hk : ∀ (m : Int) (l4 : Option QV), c_sh w h (a + 1) 0 m → S 17 [some (.inr (.inr 1)), some (.inl w), some (.inl h), some (.inl (4 * a + 4)), l4] [] (q_up μ 1 2 m)) : ∀ (n : Nat) (b m : Int), 0 ≤ b → b ≤ 3 → 3 - b < n → c_sh w h a b m → S 25 [some (.inr (.inr 1)), some (.inl w), some (.inl h), some (.inl (4 * a)), some (.inl (4 * b))] [] (q_up μ 1 2 m) := by
  have hT1 := (hT 1 (by omega)).trans T_1
  intro n
  induction n with
  | zero => intro b m h1 h2 h3; omega
  | succ n ih =>
    intro b m h1 h2 h3 h4
    refine hR 40 b_X0_shape_25 25 _ _ _ o_X0_shape_25 ?_
    simp only [v_opt_n, v_opt_s, v_nil, v_iconst, v_bipush, v_sipush, v_lconst0, v_lconst1, v_ldc, v_ldcw, v_ldc2, v_iload0, v_iload1, v_iload2, v_iload3, v_iload, v_lload0, v_lload1, v_lload2, v_lload3, v_lload, v_aload0, v_aload1, v_aload2, v_aload3, v_aload, v_istore0, v_istore1, v_istore2, v_istore3, v_istore, v_lstore0, v_lstore1, v_lstore2, v_lstore3, v_lstore, v_astore0, v_astore1, v_astore2, v_astore3, v_astore, v_iinc, v_iadd, v_isub, v_imul, v_iand, v_ior, v_ixor, v_ishl, v_ishr, v_iushr, v_ineg, v_idiv, v_irem, v_ladd, v_lsub, v_lmul, v_lcmp, v_i2l, v_l2i, v_i2c, v_dup, v_dup2, v_if_eq, v_if_ne, v_if_lt, v_if_ge, v_if_gt, v_if_le, v_ic_eq, v_ic_ne, v_ic_lt, v_ic_ge, v_ic_gt, v_ic_le, v_goto, v_tsw, v_lsw, v_ireturn, v_areturn, v_return, v_iaload, v_laload, v_baload, v_caload, v_aaload, v_iastore, v_lastore, v_bastore, v_castore, v_alen, v_invvi, v_invst, v_invsp, e_int, e_lng, e_ref, e_lg0, e_lg1, e_lg2, e_lg3, e_lg4, e_lg5, e_lg6, e_lg7, e_lg8, e_lg9, e_lg10, e_lg11, e_lg12, e_lg13, e_clrI, e_clrJ, e_clrP, e_clrN, e_s0, e_s1, e_s2, e_s3, e_s4, e_s5, e_s6, e_s7, e_s8, e_s9, e_s10, e_s11, e_s12, e_s13, e_t0, e_t1, e_t2, e_t3, e_t4, e_t5, e_t6, e_t7, e_t8, e_t9, e_t10, e_t11, e_t12, e_t13, e_fd, e_kk, e_k0, e_k1, e_k2, e_k3, e_k4, e_k5, e_k6, e_k7, e_k8, e_k9, e_sv0, e_sv1, e_sv2, e_sv3, e_svc, e_pf0, e_pf1, e_pf2, e_pf3, e_ar, e_aa, e_al, e_sw1, e_sw2, e_ct0, e_ct1, e_ct2, e_cat0, e_cat1, e_rk0, e_rk1, e_rk2, e_inv0, e_inv1, e_inv2, e_inv3, e_inv4, e_inv5, e_inv6, e_o0, e_o1, e_cl, e_cle, e_cg, e_cge, e_ce, e_cr1, e_cr2, e_r, e_R, e_up, Int.cast_ofNat_Int, u_app, false_and, and_false, e_b0, e_b1, e_bn, e_bl, e_bu, Int.reduceLE, Int.reduceLT, Int.reduceEq, Int.reduceNeg, Int.reduceAdd, Int.reduceSub, Int.reduceMul, Nat.reduceLeDiff, Nat.reduceLT, Nat.reduceAdd, Nat.reduceEqDiff, true_and, and_true, true_or, or_true, false_or, or_false, forall_const, not_true_eq_false, not_false_eq_true, true_implies, false_implies, implies_true, and_self, zero_ne_one, one_ne_zero, eq_self, reduceIte, v_getf, v_putf, s_X0_shape_0, b_X0_shape_0, s_X0_shape_17, b_X0_shape_17, s_X0_shape_22, b_X0_shape_22, s_X0_shape_25, b_X0_shape_25, s_X0_shape_31, b_X0_shape_31, s_X0_shape_54, b_X0_shape_54, s_X0_shape_60, b_X0_shape_60, fl_X0_15, fl_X0_19, fl_X0_22, G_X0_shape_25, sp_X10_tileOf_e, hT1]
    refine ⟨by omega, fun c => hk m _ ⟨h4.1, fun t => ?_⟩, fun c => ⟨by omega, ?_⟩⟩
    · rw [h4.2 t]
      constructor <;> intro q <;> omega
    · rw [u_twice, show 4 * b + 4 = 4 * (b + 1) by omega, show 4 * a / 4 * 3 + 4 * b / 4 = 3 * a + b by omega]
      refine ih (b + 1) _ (by omega) (by omega) (by omega) ⟨q_mk_or h4.1 (q_mk_one (by omega) (by omega)), fun t => ?_⟩
      rw [bt_or, Bool.or_eq_true, h4.2 t, bt_one (by omega) (by omega), decide_eq_true_iff]
      constructor <;> intro q <;> omega
theorem shape_y_g {Rt : Option QV → QM → Prop} {S : Nat → QL → List QV → QM → Prop} {T : Int → Option QS} (hT : ∀ a : Int, a = 1 → T a = q_T a) (hR : q_Rule cX0_shape 5 u_X0_shape fl_X0 ld_X0 G_X0_shape T 4 s_X0_shape Rt S) {w h : Int} {μ : QM} (hd : m_dim w h) (hk : Rt none (q_up μ 1 2 (q_tm w h))) : ∀ (n : Nat) (a m : Int) (l4 : Option QV), 0 ≤ a → a ≤ 3 → 3 - a < n → c_sh w h a 0 m → S 17 [some (.inr (.inr 1)), some (.inl w), some (.inl h), some (.inl (4 * a)), l4] [] (q_up μ 1 2 m) := by
  have hT1 := (hT 1 (by omega)).trans T_1
  intro n
  induction n with
  | zero => intro a m l4 h1 h2 h3; omega
  | succ n ih =>
    intro a m l4 h1 h2 h3 h4
    refine hR 40 b_X0_shape_17 17 _ _ _ o_X0_shape_17 ?_
    simp only [v_opt_n, v_opt_s, v_nil, v_iconst, v_bipush, v_sipush, v_lconst0, v_lconst1, v_ldc, v_ldcw, v_ldc2, v_iload0, v_iload1, v_iload2, v_iload3, v_iload, v_lload0, v_lload1, v_lload2, v_lload3, v_lload, v_aload0, v_aload1, v_aload2, v_aload3, v_aload, v_istore0, v_istore1, v_istore2, v_istore3, v_istore, v_lstore0, v_lstore1, v_lstore2, v_lstore3, v_lstore, v_astore0, v_astore1, v_astore2, v_astore3, v_astore, v_iinc, v_iadd, v_isub, v_imul, v_iand, v_ior, v_ixor, v_ishl, v_ishr, v_iushr, v_ineg, v_idiv, v_irem, v_ladd, v_lsub, v_lmul, v_lcmp, v_i2l, v_l2i, v_i2c, v_dup, v_dup2, v_if_eq, v_if_ne, v_if_lt, v_if_ge, v_if_gt, v_if_le, v_ic_eq, v_ic_ne, v_ic_lt, v_ic_ge, v_ic_gt, v_ic_le, v_goto, v_tsw, v_lsw, v_ireturn, v_areturn, v_return, v_iaload, v_laload, v_baload, v_caload, v_aaload, v_iastore, v_lastore, v_bastore, v_castore, v_alen, v_invvi, v_invst, v_invsp, e_int, e_lng, e_ref, e_lg0, e_lg1, e_lg2, e_lg3, e_lg4, e_lg5, e_lg6, e_lg7, e_lg8, e_lg9, e_lg10, e_lg11, e_lg12, e_lg13, e_clrI, e_clrJ, e_clrP, e_clrN, e_s0, e_s1, e_s2, e_s3, e_s4, e_s5, e_s6, e_s7, e_s8, e_s9, e_s10, e_s11, e_s12, e_s13, e_t0, e_t1, e_t2, e_t3, e_t4, e_t5, e_t6, e_t7, e_t8, e_t9, e_t10, e_t11, e_t12, e_t13, e_fd, e_kk, e_k0, e_k1, e_k2, e_k3, e_k4, e_k5, e_k6, e_k7, e_k8, e_k9, e_sv0, e_sv1, e_sv2, e_sv3, e_svc, e_pf0, e_pf1, e_pf2, e_pf3, e_ar, e_aa, e_al, e_sw1, e_sw2, e_ct0, e_ct1, e_ct2, e_cat0, e_cat1, e_rk0, e_rk1, e_rk2, e_inv0, e_inv1, e_inv2, e_inv3, e_inv4, e_inv5, e_inv6, e_o0, e_o1, e_cl, e_cle, e_cg, e_cge, e_ce, e_cr1, e_cr2, e_r, e_R, e_up, Int.cast_ofNat_Int, u_app, false_and, and_false, e_b0, e_b1, e_bn, e_bl, e_bu, Int.reduceLE, Int.reduceLT, Int.reduceEq, Int.reduceNeg, Int.reduceAdd, Int.reduceSub, Int.reduceMul, Nat.reduceLeDiff, Nat.reduceLT, Nat.reduceAdd, Nat.reduceEqDiff, true_and, and_true, true_or, or_true, false_or, or_false, forall_const, not_true_eq_false, not_false_eq_true, true_implies, false_implies, implies_true, and_self, zero_ne_one, one_ne_zero, eq_self, reduceIte, v_getf, v_putf, s_X0_shape_0, b_X0_shape_0, s_X0_shape_17, b_X0_shape_17, s_X0_shape_22, b_X0_shape_22, s_X0_shape_25, b_X0_shape_25, s_X0_shape_31, b_X0_shape_31, s_X0_shape_54, b_X0_shape_54, s_X0_shape_60, b_X0_shape_60, fl_X0_15, fl_X0_19, fl_X0_22, G_X0_shape_25, sp_X10_tileOf_e, hT1]
    refine ⟨by omega, fun c => ?_, fun c => ?_⟩
    · have e : m = q_tm w h := by
        refine q_mk_ext h4.1 (q_mk_tm w h) (fun t ht => ?_)
        rw [q_tm_bit, Bool.eq_iff_iff, h4.2 t, decide_eq_true_iff]
        constructor <;> intro q <;> omega
      rw [e]
      exact hk
    · refine shape_x_g hT hR hd ⟨h1, by omega⟩ (fun m l4 q => ?_) 4 0 m (by omega) (by omega) (by omega) h4
      rw [show 4 * a + 4 = 4 * (a + 1) by omega]
      exact ih (a + 1) m l4 (by omega) (by omega) (by omega) q
set_option maxRecDepth 100000 in
set_option maxHeartbeats 4000000 in
theorem Bg_X0_shape {T : Int → Option QS} (hT : ∀ a : Int, a = 1 → T a = q_T a) : q_Body cX0_shape 5 u_X0_shape fl_X0 ld_X0 G_X0_shape T 4 s_X0_shape sp_X0_shape := by
  have hT1 := (hT 1 (by omega)).trans T_1
  intro S Rt hR ra μ h
  obtain ⟨this, w, h9, rfl, h⟩ := sp_X0_shape_i h
  refine ⟨by simp [q_sl, q_ct], ?_⟩
  show S 0 [some (.inr (.inr this)), some (.inl w), some (.inl h9), none, none] [] μ
  obtain ⟨rfl, h1, hk⟩ := h
  refine hR 40 [] 0 _ _ _ rfl ?_
  simp only [v_opt_n, v_opt_s, v_nil, v_iconst, v_bipush, v_sipush, v_lconst0, v_lconst1, v_ldc, v_ldcw, v_ldc2, v_iload0, v_iload1, v_iload2, v_iload3, v_iload, v_lload0, v_lload1, v_lload2, v_lload3, v_lload, v_aload0, v_aload1, v_aload2, v_aload3, v_aload, v_istore0, v_istore1, v_istore2, v_istore3, v_istore, v_lstore0, v_lstore1, v_lstore2, v_lstore3, v_lstore, v_astore0, v_astore1, v_astore2, v_astore3, v_astore, v_iinc, v_iadd, v_isub, v_imul, v_iand, v_ior, v_ixor, v_ishl, v_ishr, v_iushr, v_ineg, v_idiv, v_irem, v_ladd, v_lsub, v_lmul, v_lcmp, v_i2l, v_l2i, v_i2c, v_dup, v_dup2, v_if_eq, v_if_ne, v_if_lt, v_if_ge, v_if_gt, v_if_le, v_ic_eq, v_ic_ne, v_ic_lt, v_ic_ge, v_ic_gt, v_ic_le, v_goto, v_tsw, v_lsw, v_ireturn, v_areturn, v_return, v_iaload, v_laload, v_baload, v_caload, v_aaload, v_iastore, v_lastore, v_bastore, v_castore, v_alen, v_invvi, v_invst, v_invsp, e_int, e_lng, e_ref, e_lg0, e_lg1, e_lg2, e_lg3, e_lg4, e_lg5, e_lg6, e_lg7, e_lg8, e_lg9, e_lg10, e_lg11, e_lg12, e_lg13, e_clrI, e_clrJ, e_clrP, e_clrN, e_s0, e_s1, e_s2, e_s3, e_s4, e_s5, e_s6, e_s7, e_s8, e_s9, e_s10, e_s11, e_s12, e_s13, e_t0, e_t1, e_t2, e_t3, e_t4, e_t5, e_t6, e_t7, e_t8, e_t9, e_t10, e_t11, e_t12, e_t13, e_fd, e_kk, e_k0, e_k1, e_k2, e_k3, e_k4, e_k5, e_k6, e_k7, e_k8, e_k9, e_sv0, e_sv1, e_sv2, e_sv3, e_svc, e_pf0, e_pf1, e_pf2, e_pf3, e_ar, e_aa, e_al, e_sw1, e_sw2, e_ct0, e_ct1, e_ct2, e_cat0, e_cat1, e_rk0, e_rk1, e_rk2, e_inv0, e_inv1, e_inv2, e_inv3, e_inv4, e_inv5, e_inv6, e_o0, e_o1, e_cl, e_cle, e_cg, e_cge, e_ce, e_cr1, e_cr2, e_r, e_R, e_up, Int.cast_ofNat_Int, u_app, false_and, and_false, e_b0, e_b1, e_bn, e_bl, e_bu, Int.reduceLE, Int.reduceLT, Int.reduceEq, Int.reduceNeg, Int.reduceAdd, Int.reduceSub, Int.reduceMul, Nat.reduceLeDiff, Nat.reduceLT, Nat.reduceAdd, Nat.reduceEqDiff, true_and, and_true, true_or, or_true, false_or, or_false, forall_const, not_true_eq_false, not_false_eq_true, true_implies, false_implies, implies_true, and_self, zero_ne_one, one_ne_zero, eq_self, reduceIte, v_getf, v_putf, s_X0_shape_0, b_X0_shape_0, s_X0_shape_17, b_X0_shape_17, s_X0_shape_22, b_X0_shape_22, s_X0_shape_25, b_X0_shape_25, s_X0_shape_31, b_X0_shape_31, s_X0_shape_54, b_X0_shape_54, s_X0_shape_60, b_X0_shape_60, fl_X0_15, fl_X0_19, fl_X0_22, G_X0_shape_25, sp_X10_tileOf_e, hT1]
  refine shape_y_g hT hR h1 hk 4 0 0 none (by omega) (by omega) (by omega) ⟨q_mk_0, fun t => ?_⟩
  rw [bt_0]
  constructor
  · intro q
    cases q
  · intro q
    omega
set_option maxRecDepth 100000 in
theorem Cg_X0_shape {l : Launch} {T : Int → Option QS} {N : List Int} {ad : Int → Nat} {D : va_G} {cy : Nat → ClassId} {Z : State → Prop} (hZ : q_Zok (q_A N ad) Z) (hN : ∀ s : State, Z s → ∀ q ∈ q_nst, va_Nw (.methodLinkNest q.1 q.2.1 q.2.2.1 q.2.2.2) s) (hw : q_wok T N) (hT : ∀ a : Int, a = 1 → T a = q_T a) : q_Ct l T N ad D cy Z yX0_shape cX0_shape 5 none rm_X0_shape sp_X0_shape := by
  obtain ⟨hf, hg, hld⟩ := q_chkS k_X0_shape
  refine q_met (rk := 4) hw (by decide) rfl hf hg hld rfl (q_skS L_X0_shape o_X0_shape) ?_ ?_ ?_ ?_ (Bg_X0_shape hT)
  · intro i hi; exact absurd hi List.not_mem_nil
  · intro i hi; exact absurd hi List.not_mem_nil
  · intro i hi
    have hi : i = 25 := by simpa [u_X0_shape] using hi
    rcases hi with rfl
    · exact q_crSN hZ (Cg_X10_tileOf hZ hw) cm_X10_tileOf (fun s h => hN s h (RX0, 25, yX10_tileOf, "BoardSums") (List.mem_of_getElem? (i := 0) rfl)) (by decide +kernel) (by decide +kernel) (by decide +kernel) ⟨rfl, rfl⟩ (by decide)
  · intro i hi; exact absurd hi List.not_mem_nil
def Gg_X5_empty (T : Int → Option QS) : Nat → Nat × QP := fun i => match i with
  | 27 => (2, sg_fill T)
  | _ => (0, fun _ _ _ => False)
theorem Gg_X5_empty_27 (T : Int → Option QS) : Gg_X5_empty T 27 = (2, sg_fill T) := id rfl
theorem se_26_g {Rt : Option QV → QM → Prop} {S : Nat → QL → List QV → QM → Prop} {T : Int → Option QS} (hT : ∀ a : Int, 2 ≤ a ∧ a ≤ 12 → T a = q_T a) (hR : q_Rule cX5_empty 2 u_X5_empty fl_X5 ld_X5 (Gg_X5_empty T) T 4 s_X5_empty Rt S) : ∀ (n : Nat) (i : Int) (μ : QM), 0 ≤ i → i ≤ 3 → 3 - i < n → Rt none (q_fill μ 12 i 3 0) → S 26 [some (.inr (.inr 2)), some (.inl i)] [] μ := by
  have hT2 := (hT 2 (by omega)).trans T_2
  have hT3 := (hT 3 (by omega)).trans T_3
  have hT12 := (hT 12 (by omega)).trans T_12
  intro n
  induction n with
  | zero => intro i μ h1 h2 h3; omega
  | succ n ih =>
    intro i μ h1 h2 h3 h4
    refine hR 40 b_X5_empty_26 26 _ _ _ o_X5_empty_26 ?_
    simp only [v_opt_n, v_opt_s, v_nil, v_iconst, v_bipush, v_sipush, v_lconst0, v_lconst1, v_ldc, v_ldcw, v_ldc2, v_iload0, v_iload1, v_iload2, v_iload3, v_iload, v_lload0, v_lload1, v_lload2, v_lload3, v_lload, v_aload0, v_aload1, v_aload2, v_aload3, v_aload, v_istore0, v_istore1, v_istore2, v_istore3, v_istore, v_lstore0, v_lstore1, v_lstore2, v_lstore3, v_lstore, v_astore0, v_astore1, v_astore2, v_astore3, v_astore, v_iinc, v_iadd, v_isub, v_imul, v_iand, v_ior, v_ixor, v_ishl, v_ishr, v_iushr, v_ineg, v_idiv, v_irem, v_ladd, v_lsub, v_lmul, v_lcmp, v_i2l, v_l2i, v_i2c, v_dup, v_dup2, v_if_eq, v_if_ne, v_if_lt, v_if_ge, v_if_gt, v_if_le, v_ic_eq, v_ic_ne, v_ic_lt, v_ic_ge, v_ic_gt, v_ic_le, v_goto, v_tsw, v_lsw, v_ireturn, v_areturn, v_return, v_iaload, v_laload, v_baload, v_caload, v_aaload, v_iastore, v_lastore, v_bastore, v_castore, v_alen, v_invvi, v_invst, v_invsp, e_int, e_lng, e_ref, e_lg0, e_lg1, e_lg2, e_lg3, e_lg4, e_lg5, e_lg6, e_lg7, e_lg8, e_lg9, e_lg10, e_lg11, e_lg12, e_lg13, e_clrI, e_clrJ, e_clrP, e_clrN, e_s0, e_s1, e_s2, e_s3, e_s4, e_s5, e_s6, e_s7, e_s8, e_s9, e_s10, e_s11, e_s12, e_s13, e_t0, e_t1, e_t2, e_t3, e_t4, e_t5, e_t6, e_t7, e_t8, e_t9, e_t10, e_t11, e_t12, e_t13, e_fd, e_kk, e_k0, e_k1, e_k2, e_k3, e_k4, e_k5, e_k6, e_k7, e_k8, e_k9, e_sv0, e_sv1, e_sv2, e_sv3, e_svc, e_pf0, e_pf1, e_pf2, e_pf3, e_ar, e_aa, e_al, e_sw1, e_sw2, e_ct0, e_ct1, e_ct2, e_cat0, e_cat1, e_rk0, e_rk1, e_rk2, e_inv0, e_inv1, e_inv2, e_inv3, e_inv4, e_inv5, e_inv6, e_o0, e_o1, e_cl, e_cle, e_cg, e_cge, e_ce, e_cr1, e_cr2, e_r, e_R, e_up, Int.cast_ofNat_Int, u_app, false_and, and_false, e_b0, e_b1, e_bn, e_bl, e_bu, Int.reduceLE, Int.reduceLT, Int.reduceEq, Int.reduceNeg, Int.reduceAdd, Int.reduceSub, Int.reduceMul, Nat.reduceLeDiff, Nat.reduceLT, Nat.reduceAdd, Nat.reduceEqDiff, true_and, and_true, true_or, or_true, false_or, or_false, forall_const, not_true_eq_false, not_false_eq_true, true_implies, false_implies, implies_true, and_self, zero_ne_one, one_ne_zero, eq_self, reduceIte, v_getf, v_putf, s_X5_empty_0, b_X5_empty_0, s_X5_empty_2, b_X5_empty_2, s_X5_empty_7, b_X5_empty_7, s_X5_empty_24, b_X5_empty_24, s_X5_empty_26, b_X5_empty_26, s_X5_empty_31, b_X5_empty_31, s_X5_empty_44, b_X5_empty_44, fl_X5_11, fl_X5_19, ld_X5_26, Gg_X5_empty_27, sg_fill_e, hT12, hT2, hT3, hT12]
    refine ⟨by omega, fun c => ?_, fun c => ⟨by omega, by omega, ih (i + 1) _ (by omega) (by omega) (by omega) ?_⟩⟩
    · rw [q_fill_e (by omega)] at h4
      exact h4
    · rw [q_fill_s (by omega)]
      exact h4
theorem se_2_g {Rt : Option QV → QM → Prop} {S : Nat → QL → List QV → QM → Prop} {T : Int → Option QS} (hT : ∀ a : Int, 2 ≤ a ∧ a ≤ 12 → T a = q_T a) (hR : q_Rule cX5_empty 2 u_X5_empty fl_X5 ld_X5 (Gg_X5_empty T) T 4 s_X5_empty Rt S) {μ : QM} (hk : Rt none (q_fill (q_rows μ 4 4 196 (-2000000000)) 12 0 3 0)) : ∀ (n : Nat) (i : Int), 0 ≤ i → i ≤ 4 → 4 - i < n → S 2 [some (.inr (.inr 2)), some (.inl i)] [] (q_rows μ 4 i 196 (-2000000000)) := by
  have hT2 := (hT 2 (by omega)).trans T_2
  have hT3 := (hT 3 (by omega)).trans T_3
  have hT12 := (hT 12 (by omega)).trans T_12
  intro n
  induction n with
  | zero => intro i h1 h2 h3; omega
  | succ n ih =>
    intro i h1 h2 h3
    refine hR 40 b_X5_empty_2 2 _ _ _ o_X5_empty_2 ?_
    simp only [v_opt_n, v_opt_s, v_nil, v_iconst, v_bipush, v_sipush, v_lconst0, v_lconst1, v_ldc, v_ldcw, v_ldc2, v_iload0, v_iload1, v_iload2, v_iload3, v_iload, v_lload0, v_lload1, v_lload2, v_lload3, v_lload, v_aload0, v_aload1, v_aload2, v_aload3, v_aload, v_istore0, v_istore1, v_istore2, v_istore3, v_istore, v_lstore0, v_lstore1, v_lstore2, v_lstore3, v_lstore, v_astore0, v_astore1, v_astore2, v_astore3, v_astore, v_iinc, v_iadd, v_isub, v_imul, v_iand, v_ior, v_ixor, v_ishl, v_ishr, v_iushr, v_ineg, v_idiv, v_irem, v_ladd, v_lsub, v_lmul, v_lcmp, v_i2l, v_l2i, v_i2c, v_dup, v_dup2, v_if_eq, v_if_ne, v_if_lt, v_if_ge, v_if_gt, v_if_le, v_ic_eq, v_ic_ne, v_ic_lt, v_ic_ge, v_ic_gt, v_ic_le, v_goto, v_tsw, v_lsw, v_ireturn, v_areturn, v_return, v_iaload, v_laload, v_baload, v_caload, v_aaload, v_iastore, v_lastore, v_bastore, v_castore, v_alen, v_invvi, v_invst, v_invsp, e_int, e_lng, e_ref, e_lg0, e_lg1, e_lg2, e_lg3, e_lg4, e_lg5, e_lg6, e_lg7, e_lg8, e_lg9, e_lg10, e_lg11, e_lg12, e_lg13, e_clrI, e_clrJ, e_clrP, e_clrN, e_s0, e_s1, e_s2, e_s3, e_s4, e_s5, e_s6, e_s7, e_s8, e_s9, e_s10, e_s11, e_s12, e_s13, e_t0, e_t1, e_t2, e_t3, e_t4, e_t5, e_t6, e_t7, e_t8, e_t9, e_t10, e_t11, e_t12, e_t13, e_fd, e_kk, e_k0, e_k1, e_k2, e_k3, e_k4, e_k5, e_k6, e_k7, e_k8, e_k9, e_sv0, e_sv1, e_sv2, e_sv3, e_svc, e_pf0, e_pf1, e_pf2, e_pf3, e_ar, e_aa, e_al, e_sw1, e_sw2, e_ct0, e_ct1, e_ct2, e_cat0, e_cat1, e_rk0, e_rk1, e_rk2, e_inv0, e_inv1, e_inv2, e_inv3, e_inv4, e_inv5, e_inv6, e_o0, e_o1, e_cl, e_cle, e_cg, e_cge, e_ce, e_cr1, e_cr2, e_r, e_R, e_up, Int.cast_ofNat_Int, u_app, false_and, and_false, e_b0, e_b1, e_bn, e_bl, e_bu, Int.reduceLE, Int.reduceLT, Int.reduceEq, Int.reduceNeg, Int.reduceAdd, Int.reduceSub, Int.reduceMul, Nat.reduceLeDiff, Nat.reduceLT, Nat.reduceAdd, Nat.reduceEqDiff, true_and, and_true, true_or, or_true, false_or, or_false, forall_const, not_true_eq_false, not_false_eq_true, true_implies, false_implies, implies_true, and_self, zero_ne_one, one_ne_zero, eq_self, reduceIte, v_getf, v_putf, s_X5_empty_0, b_X5_empty_0, s_X5_empty_2, b_X5_empty_2, s_X5_empty_7, b_X5_empty_7, s_X5_empty_24, b_X5_empty_24, s_X5_empty_26, b_X5_empty_26, s_X5_empty_31, b_X5_empty_31, s_X5_empty_44, b_X5_empty_44, fl_X5_11, fl_X5_19, ld_X5_26, Gg_X5_empty_27, sg_fill_e, hT3, hT2, hT3, hT12]
    refine ⟨by omega, fun c => ?_, fun c => ?_⟩
    · obtain rfl : i = 4 := by omega
      exact se_26_g hT hR 4 0 _ (by omega) (by omega) (by omega) hk
    · refine ⟨h1, by omega, by omega, 196, (hT _ (by omega)).trans (T_cel (by omega)), by omega, ?_⟩
      have := ih (i + 1) (by omega) (by omega) (by omega)
      rw [← q_rows_s h1] at this
      exact this
set_option maxRecDepth 100000 in
set_option maxHeartbeats 4000000 in
theorem Bg_X5_empty {T : Int → Option QS} (hT : ∀ a : Int, 2 ≤ a ∧ a ≤ 12 → T a = q_T a) : q_Body cX5_empty 2 u_X5_empty fl_X5 ld_X5 (Gg_X5_empty T) T 4 s_X5_empty sp_X5_empty := by
  have hT2 := (hT 2 (by omega)).trans T_2
  have hT3 := (hT 3 (by omega)).trans T_3
  have hT12 := (hT 12 (by omega)).trans T_12
  intro S Rt hR ra μ h
  obtain ⟨this, rfl, h⟩ := sp_X5_empty_i h
  refine ⟨by simp [q_sl, q_ct], ?_⟩
  show S 0 [some (.inr (.inr this)), none] [] μ
  obtain ⟨rfl, hk⟩ := h
  refine hR 40 [] 0 _ _ _ rfl ?_
  simp only [v_opt_n, v_opt_s, v_nil, v_iconst, v_bipush, v_sipush, v_lconst0, v_lconst1, v_ldc, v_ldcw, v_ldc2, v_iload0, v_iload1, v_iload2, v_iload3, v_iload, v_lload0, v_lload1, v_lload2, v_lload3, v_lload, v_aload0, v_aload1, v_aload2, v_aload3, v_aload, v_istore0, v_istore1, v_istore2, v_istore3, v_istore, v_lstore0, v_lstore1, v_lstore2, v_lstore3, v_lstore, v_astore0, v_astore1, v_astore2, v_astore3, v_astore, v_iinc, v_iadd, v_isub, v_imul, v_iand, v_ior, v_ixor, v_ishl, v_ishr, v_iushr, v_ineg, v_idiv, v_irem, v_ladd, v_lsub, v_lmul, v_lcmp, v_i2l, v_l2i, v_i2c, v_dup, v_dup2, v_if_eq, v_if_ne, v_if_lt, v_if_ge, v_if_gt, v_if_le, v_ic_eq, v_ic_ne, v_ic_lt, v_ic_ge, v_ic_gt, v_ic_le, v_goto, v_tsw, v_lsw, v_ireturn, v_areturn, v_return, v_iaload, v_laload, v_baload, v_caload, v_aaload, v_iastore, v_lastore, v_bastore, v_castore, v_alen, v_invvi, v_invst, v_invsp, e_int, e_lng, e_ref, e_lg0, e_lg1, e_lg2, e_lg3, e_lg4, e_lg5, e_lg6, e_lg7, e_lg8, e_lg9, e_lg10, e_lg11, e_lg12, e_lg13, e_clrI, e_clrJ, e_clrP, e_clrN, e_s0, e_s1, e_s2, e_s3, e_s4, e_s5, e_s6, e_s7, e_s8, e_s9, e_s10, e_s11, e_s12, e_s13, e_t0, e_t1, e_t2, e_t3, e_t4, e_t5, e_t6, e_t7, e_t8, e_t9, e_t10, e_t11, e_t12, e_t13, e_fd, e_kk, e_k0, e_k1, e_k2, e_k3, e_k4, e_k5, e_k6, e_k7, e_k8, e_k9, e_sv0, e_sv1, e_sv2, e_sv3, e_svc, e_pf0, e_pf1, e_pf2, e_pf3, e_ar, e_aa, e_al, e_sw1, e_sw2, e_ct0, e_ct1, e_ct2, e_cat0, e_cat1, e_rk0, e_rk1, e_rk2, e_inv0, e_inv1, e_inv2, e_inv3, e_inv4, e_inv5, e_inv6, e_o0, e_o1, e_cl, e_cle, e_cg, e_cge, e_ce, e_cr1, e_cr2, e_r, e_R, e_up, Int.cast_ofNat_Int, u_app, false_and, and_false, e_b0, e_b1, e_bn, e_bl, e_bu, Int.reduceLE, Int.reduceLT, Int.reduceEq, Int.reduceNeg, Int.reduceAdd, Int.reduceSub, Int.reduceMul, Nat.reduceLeDiff, Nat.reduceLT, Nat.reduceAdd, Nat.reduceEqDiff, true_and, and_true, true_or, or_true, false_or, or_false, forall_const, not_true_eq_false, not_false_eq_true, true_implies, false_implies, implies_true, and_self, zero_ne_one, one_ne_zero, eq_self, reduceIte, v_getf, v_putf, s_X5_empty_0, b_X5_empty_0, s_X5_empty_2, b_X5_empty_2, s_X5_empty_7, b_X5_empty_7, s_X5_empty_24, b_X5_empty_24, s_X5_empty_26, b_X5_empty_26, s_X5_empty_31, b_X5_empty_31, s_X5_empty_44, b_X5_empty_44, fl_X5_11, fl_X5_19, ld_X5_26, Gg_X5_empty_27, sg_fill_e, hT2, hT3, hT12]
  have := se_2_g hT hR hk 5 0 (by omega) (by omega) (by omega)
  rw [q_rows_0] at this
  exact this
set_option maxRecDepth 100000 in
theorem Cg_X5_empty {l : Launch} {T : Int → Option QS} {N : List Int} {ad : Int → Nat} {D : va_G} {cy : Nat → ClassId} {Z : State → Prop} (hZ : q_Zok (q_A N ad) Z) (hw : q_wok T N) (hT : ∀ a : Int, 2 ≤ a ∧ a ≤ 12 → T a = q_T a) : q_Ct l T N ad D cy Z yX5_empty cX5_empty 2 none rm_X5_empty sp_X5_empty := by
  obtain ⟨hf, hg, hld⟩ := q_chkS k_X5_empty
  refine q_met (rk := 4) hw (by decide) rfl hf hg hld rfl (q_skS L_X5_empty o_X5_empty) ?_ ?_ ?_ ?_ (Bg_X5_empty hT)
  · intro i hi; exact absurd hi List.not_mem_nil
  · intro i hi; exact absurd hi List.not_mem_nil
  · intro i hi
    have hi : i = 27 := by simpa [u_X5_empty] using hi
    rcases hi with rfl
    · exact q_crS hZ (Cg_J7_fill_53178 hZ hw) cm_J7_fill_53178 (by decide +kernel) (by decide +kernel) (by decide +kernel) (by decide +kernel) ⟨rfl, rfl⟩ (by decide)
  · intro i hi; exact absurd hi List.not_mem_nil
def Gg_X2_clear (T : Int → Option QS) : Nat → Nat × QP := fun i => match i with
  | 29 => (2, sg_fill T)
  | _ => (0, fun _ _ _ => False)
theorem Gg_X2_clear_29 (T : Int → Option QS) : Gg_X2_clear T 29 = (2, sg_fill T) := id rfl
set_option maxRecDepth 100000 in
set_option maxHeartbeats 4000000 in
theorem Bg_X2_clear {T : Int → Option QS} {P : Int} (hT : ∀ a : Int, P ≤ a ∧ a ≤ P + 2 → T a = q_T a) : q_Body cX2_clear 1 u_X2_clear fl_X2 ld_X2 (Gg_X2_clear T) T 4 s_X2_clear (sg_clear P) := by
  intro S Rt hR ra μ h
  obtain ⟨rfl, h2⟩ := sg_clear_i h
  replace h := h2
  refine ⟨by simp [q_sl, q_ct], ?_⟩
  show S 0 [some (.inr (.inr P))] [] μ
  obtain ⟨h1, hk⟩ := h
  have hTp := (hT P (by omega)).trans (T_plan h1)
  have h0 : 0 ≤ P := by omega
  refine hR 40 [] 0 _ _ _ rfl ?_
  simp only [v_opt_n, v_opt_s, v_nil, v_iconst, v_bipush, v_sipush, v_lconst0, v_lconst1, v_ldc, v_ldcw, v_ldc2, v_iload0, v_iload1, v_iload2, v_iload3, v_iload, v_lload0, v_lload1, v_lload2, v_lload3, v_lload, v_aload0, v_aload1, v_aload2, v_aload3, v_aload, v_istore0, v_istore1, v_istore2, v_istore3, v_istore, v_lstore0, v_lstore1, v_lstore2, v_lstore3, v_lstore, v_astore0, v_astore1, v_astore2, v_astore3, v_astore, v_iinc, v_iadd, v_isub, v_imul, v_iand, v_ior, v_ixor, v_ishl, v_ishr, v_iushr, v_ineg, v_idiv, v_irem, v_ladd, v_lsub, v_lmul, v_lcmp, v_i2l, v_l2i, v_i2c, v_dup, v_dup2, v_if_eq, v_if_ne, v_if_lt, v_if_ge, v_if_gt, v_if_le, v_ic_eq, v_ic_ne, v_ic_lt, v_ic_ge, v_ic_gt, v_ic_le, v_goto, v_tsw, v_lsw, v_ireturn, v_areturn, v_return, v_iaload, v_laload, v_baload, v_caload, v_aaload, v_iastore, v_lastore, v_bastore, v_castore, v_alen, v_invvi, v_invst, v_invsp, e_int, e_lng, e_ref, e_lg0, e_lg1, e_lg2, e_lg3, e_lg4, e_lg5, e_lg6, e_lg7, e_lg8, e_lg9, e_lg10, e_lg11, e_lg12, e_lg13, e_clrI, e_clrJ, e_clrP, e_clrN, e_s0, e_s1, e_s2, e_s3, e_s4, e_s5, e_s6, e_s7, e_s8, e_s9, e_s10, e_s11, e_s12, e_s13, e_t0, e_t1, e_t2, e_t3, e_t4, e_t5, e_t6, e_t7, e_t8, e_t9, e_t10, e_t11, e_t12, e_t13, e_fd, e_kk, e_k0, e_k1, e_k2, e_k3, e_k4, e_k5, e_k6, e_k7, e_k8, e_k9, e_sv0, e_sv1, e_sv2, e_sv3, e_svc, e_pf0, e_pf1, e_pf2, e_pf3, e_ar, e_aa, e_al, e_sw1, e_sw2, e_ct0, e_ct1, e_ct2, e_cat0, e_cat1, e_rk0, e_rk1, e_rk2, e_inv0, e_inv1, e_inv2, e_inv3, e_inv4, e_inv5, e_inv6, e_o0, e_o1, e_cl, e_cle, e_cg, e_cge, e_ce, e_cr1, e_cr2, e_r, e_R, e_up, Int.cast_ofNat_Int, u_app, false_and, and_false, e_b0, e_b1, e_bn, e_bl, e_bu, Int.reduceLE, Int.reduceLT, Int.reduceEq, Int.reduceNeg, Int.reduceAdd, Int.reduceSub, Int.reduceMul, Nat.reduceLeDiff, Nat.reduceLT, Nat.reduceAdd, Nat.reduceEqDiff, true_and, and_true, true_or, or_true, false_or, or_false, forall_const, not_true_eq_false, not_false_eq_true, true_implies, false_implies, implies_true, and_self, zero_ne_one, one_ne_zero, eq_self, reduceIte, v_getf, v_putf, s_X2_clear_0, b_X2_clear_0, fl_X2_25, fl_X2_17, Gg_X2_clear_29, sg_fill_e, hTp]
  exact ⟨h0, h0, 26, (hT _ (by omega)).trans (T_bof h1), by omega, hk⟩
set_option maxRecDepth 100000 in
theorem Cg_X2_clear {l : Launch} {T : Int → Option QS} {N : List Int} {ad : Int → Nat} {D : va_G} {cy : Nat → ClassId} {Z : State → Prop} (hZ : q_Zok (q_A N ad) Z) (hw : q_wok T N) {P : Int} (hT : ∀ a : Int, P ≤ a ∧ a ≤ P + 2 → T a = q_T a) : q_Ct l T N ad D cy Z yX2_clear cX2_clear 1 none rm_X2_clear (sg_clear P) := by
  obtain ⟨hf, hg, hld⟩ := q_chkS k_X2_clear
  refine q_met (rk := 4) hw (by decide) rfl hf hg hld rfl (q_skS L_X2_clear o_X2_clear) ?_ ?_ ?_ ?_ (Bg_X2_clear hT)
  · intro i hi; exact absurd hi List.not_mem_nil
  · intro i hi; exact absurd hi List.not_mem_nil
  · intro i hi
    have hi : i = 29 := by simpa [u_X2_clear] using hi
    rcases hi with rfl
    · exact q_crS hZ (Cg_J7_fill_53178 hZ hw) cm_J7_fill_53178 (by decide +kernel) (by decide +kernel) (by decide +kernel) (by decide +kernel) ⟨rfl, rfl⟩ (by decide)
  · intro i hi; exact absurd hi List.not_mem_nil
def Gg_X9_empty (T : Int → Option QS) : Nat → Nat × QP := fun i => match i with
  | 43 => (2, sg_fill T)
  | _ => (0, fun _ _ _ => False)
theorem Gg_X9_empty_43 (T : Int → Option QS) : Gg_X9_empty T 43 = (2, sg_fill T) := id rfl
theorem we_10_g {Rt : Option QV → QM → Prop} {S : Nat → QL → List QV → QM → Prop} {T : Int → Option QS} (hT : ∀ a : Int, 20 ≤ a ∧ a ≤ 33 ∧ ¬ a = 22 → T a = q_T a) (hR : q_Rule cX9_empty 2 u_X9_empty fl_X9 ld_X9 (Gg_X9_empty T) T 4 s_X9_empty Rt S) {μ : QM} (hk : Rt none (q_rows μ 24 10 196 (-2000000000))) : ∀ (n : Nat) (i : Int), 0 ≤ i → i ≤ 10 → 10 - i < n → S 10 [some (.inr (.inr 20)), some (.inl i)] [] (q_rows μ 24 i 196 (-2000000000)) := by
  have hT20 := (hT 20 (by omega)).trans T_20
  have hT21 := (hT 21 (by omega)).trans T_21
  have hT23 := (hT 23 (by omega)).trans T_23
  intro n
  induction n with
  | zero => intro i h1 h2 h3; omega
  | succ n ih =>
    intro i h1 h2 h3
    refine hR 40 b_X9_empty_10 10 _ _ _ o_X9_empty_10 ?_
    simp only [v_opt_n, v_opt_s, v_nil, v_iconst, v_bipush, v_sipush, v_lconst0, v_lconst1, v_ldc, v_ldcw, v_ldc2, v_iload0, v_iload1, v_iload2, v_iload3, v_iload, v_lload0, v_lload1, v_lload2, v_lload3, v_lload, v_aload0, v_aload1, v_aload2, v_aload3, v_aload, v_istore0, v_istore1, v_istore2, v_istore3, v_istore, v_lstore0, v_lstore1, v_lstore2, v_lstore3, v_lstore, v_astore0, v_astore1, v_astore2, v_astore3, v_astore, v_iinc, v_iadd, v_isub, v_imul, v_iand, v_ior, v_ixor, v_ishl, v_ishr, v_iushr, v_ineg, v_idiv, v_irem, v_ladd, v_lsub, v_lmul, v_lcmp, v_i2l, v_l2i, v_i2c, v_dup, v_dup2, v_if_eq, v_if_ne, v_if_lt, v_if_ge, v_if_gt, v_if_le, v_ic_eq, v_ic_ne, v_ic_lt, v_ic_ge, v_ic_gt, v_ic_le, v_goto, v_tsw, v_lsw, v_ireturn, v_areturn, v_return, v_iaload, v_laload, v_baload, v_caload, v_aaload, v_iastore, v_lastore, v_bastore, v_castore, v_alen, v_invvi, v_invst, v_invsp, e_int, e_lng, e_ref, e_lg0, e_lg1, e_lg2, e_lg3, e_lg4, e_lg5, e_lg6, e_lg7, e_lg8, e_lg9, e_lg10, e_lg11, e_lg12, e_lg13, e_clrI, e_clrJ, e_clrP, e_clrN, e_s0, e_s1, e_s2, e_s3, e_s4, e_s5, e_s6, e_s7, e_s8, e_s9, e_s10, e_s11, e_s12, e_s13, e_t0, e_t1, e_t2, e_t3, e_t4, e_t5, e_t6, e_t7, e_t8, e_t9, e_t10, e_t11, e_t12, e_t13, e_fd, e_kk, e_k0, e_k1, e_k2, e_k3, e_k4, e_k5, e_k6, e_k7, e_k8, e_k9, e_sv0, e_sv1, e_sv2, e_sv3, e_svc, e_pf0, e_pf1, e_pf2, e_pf3, e_ar, e_aa, e_al, e_sw1, e_sw2, e_ct0, e_ct1, e_ct2, e_cat0, e_cat1, e_rk0, e_rk1, e_rk2, e_inv0, e_inv1, e_inv2, e_inv3, e_inv4, e_inv5, e_inv6, e_o0, e_o1, e_cl, e_cle, e_cg, e_cge, e_ce, e_cr1, e_cr2, e_r, e_R, e_up, Int.cast_ofNat_Int, u_app, false_and, and_false, e_b0, e_b1, e_bn, e_bl, e_bu, Int.reduceLE, Int.reduceLT, Int.reduceEq, Int.reduceNeg, Int.reduceAdd, Int.reduceSub, Int.reduceMul, Nat.reduceLeDiff, Nat.reduceLT, Nat.reduceAdd, Nat.reduceEqDiff, true_and, and_true, true_or, or_true, false_or, or_false, forall_const, not_true_eq_false, not_false_eq_true, true_implies, false_implies, implies_true, and_self, zero_ne_one, one_ne_zero, eq_self, reduceIte, v_getf, v_putf, s_X9_empty_0, b_X9_empty_0, s_X9_empty_10, b_X9_empty_10, s_X9_empty_16, b_X9_empty_16, s_X9_empty_33, b_X9_empty_33, fl_X9_9, fl_X9_20, ld_X9_49, Gg_X9_empty_43, sg_fill_e, hT23, hT20, hT21, hT23]
    refine ⟨by omega, fun c => ?_, fun c => ⟨h1, by omega, by omega, 196, (hT _ (by omega)).trans (T_val h1 (by omega)), by omega, ?_⟩⟩
    · obtain rfl : i = 10 := by omega
      exact hk
    · have := ih (i + 1) (by omega) (by omega) (by omega)
      rw [← q_rows_s h1] at this
      exact this
set_option maxRecDepth 100000 in
set_option maxHeartbeats 4000000 in
theorem Bg_X9_empty {T : Int → Option QS} (hT : ∀ a : Int, 20 ≤ a ∧ a ≤ 33 ∧ ¬ a = 22 → T a = q_T a) : q_Body cX9_empty 2 u_X9_empty fl_X9 ld_X9 (Gg_X9_empty T) T 4 s_X9_empty sp_X9_empty := by
  have hT20 := (hT 20 (by omega)).trans T_20
  have hT21 := (hT 21 (by omega)).trans T_21
  have hT23 := (hT 23 (by omega)).trans T_23
  intro S Rt hR ra μ h
  obtain ⟨this, rfl, h⟩ := sp_X9_empty_i h
  refine ⟨by simp [q_sl, q_ct], ?_⟩
  show S 0 [some (.inr (.inr this)), none] [] μ
  obtain ⟨rfl, hk⟩ := h
  refine hR 40 [] 0 _ _ _ rfl ?_
  simp only [v_opt_n, v_opt_s, v_nil, v_iconst, v_bipush, v_sipush, v_lconst0, v_lconst1, v_ldc, v_ldcw, v_ldc2, v_iload0, v_iload1, v_iload2, v_iload3, v_iload, v_lload0, v_lload1, v_lload2, v_lload3, v_lload, v_aload0, v_aload1, v_aload2, v_aload3, v_aload, v_istore0, v_istore1, v_istore2, v_istore3, v_istore, v_lstore0, v_lstore1, v_lstore2, v_lstore3, v_lstore, v_astore0, v_astore1, v_astore2, v_astore3, v_astore, v_iinc, v_iadd, v_isub, v_imul, v_iand, v_ior, v_ixor, v_ishl, v_ishr, v_iushr, v_ineg, v_idiv, v_irem, v_ladd, v_lsub, v_lmul, v_lcmp, v_i2l, v_l2i, v_i2c, v_dup, v_dup2, v_if_eq, v_if_ne, v_if_lt, v_if_ge, v_if_gt, v_if_le, v_ic_eq, v_ic_ne, v_ic_lt, v_ic_ge, v_ic_gt, v_ic_le, v_goto, v_tsw, v_lsw, v_ireturn, v_areturn, v_return, v_iaload, v_laload, v_baload, v_caload, v_aaload, v_iastore, v_lastore, v_bastore, v_castore, v_alen, v_invvi, v_invst, v_invsp, e_int, e_lng, e_ref, e_lg0, e_lg1, e_lg2, e_lg3, e_lg4, e_lg5, e_lg6, e_lg7, e_lg8, e_lg9, e_lg10, e_lg11, e_lg12, e_lg13, e_clrI, e_clrJ, e_clrP, e_clrN, e_s0, e_s1, e_s2, e_s3, e_s4, e_s5, e_s6, e_s7, e_s8, e_s9, e_s10, e_s11, e_s12, e_s13, e_t0, e_t1, e_t2, e_t3, e_t4, e_t5, e_t6, e_t7, e_t8, e_t9, e_t10, e_t11, e_t12, e_t13, e_fd, e_kk, e_k0, e_k1, e_k2, e_k3, e_k4, e_k5, e_k6, e_k7, e_k8, e_k9, e_sv0, e_sv1, e_sv2, e_sv3, e_svc, e_pf0, e_pf1, e_pf2, e_pf3, e_ar, e_aa, e_al, e_sw1, e_sw2, e_ct0, e_ct1, e_ct2, e_cat0, e_cat1, e_rk0, e_rk1, e_rk2, e_inv0, e_inv1, e_inv2, e_inv3, e_inv4, e_inv5, e_inv6, e_o0, e_o1, e_cl, e_cle, e_cg, e_cge, e_ce, e_cr1, e_cr2, e_r, e_R, e_up, Int.cast_ofNat_Int, u_app, false_and, and_false, e_b0, e_b1, e_bn, e_bl, e_bu, Int.reduceLE, Int.reduceLT, Int.reduceEq, Int.reduceNeg, Int.reduceAdd, Int.reduceSub, Int.reduceMul, Nat.reduceLeDiff, Nat.reduceLT, Nat.reduceAdd, Nat.reduceEqDiff, true_and, and_true, true_or, or_true, false_or, or_false, forall_const, not_true_eq_false, not_false_eq_true, true_implies, false_implies, implies_true, and_self, zero_ne_one, one_ne_zero, eq_self, reduceIte, v_getf, v_putf, s_X9_empty_0, b_X9_empty_0, s_X9_empty_10, b_X9_empty_10, s_X9_empty_16, b_X9_empty_16, s_X9_empty_33, b_X9_empty_33, fl_X9_9, fl_X9_20, ld_X9_49, Gg_X9_empty_43, sg_fill_e, hT20, hT21, hT23]
  refine ⟨10, rfl, by omega, ?_⟩
  have := we_10_g hT hR hk 11 0 (by omega) (by omega) (by omega)
  rw [q_rows_0] at this
  exact this
set_option maxRecDepth 100000 in
theorem Cg_X9_empty {l : Launch} {T : Int → Option QS} {N : List Int} {ad : Int → Nat} {D : va_G} {cy : Nat → ClassId} {Z : State → Prop} (hZ : q_Zok (q_A N ad) Z) (hw : q_wok T N) (hT : ∀ a : Int, 20 ≤ a ∧ a ≤ 33 ∧ ¬ a = 22 → T a = q_T a) : q_Ct l T N ad D cy Z yX9_empty cX9_empty 2 none rm_X9_empty sp_X9_empty := by
  obtain ⟨hf, hg, hld⟩ := q_chkS k_X9_empty
  refine q_met (rk := 4) hw (by decide) rfl hf hg hld rfl (q_skS L_X9_empty o_X9_empty) ?_ ?_ ?_ ?_ (Bg_X9_empty hT)
  · intro i hi; exact absurd hi List.not_mem_nil
  · intro i hi; exact absurd hi List.not_mem_nil
  · intro i hi
    have hi : i = 43 := by simpa [u_X9_empty] using hi
    rcases hi with rfl
    · exact q_crS hZ (Cg_J7_fill_53178 hZ hw) cm_J7_fill_53178 (by decide +kernel) (by decide +kernel) (by decide +kernel) (by decide +kernel) ⟨rfl, rfl⟩ (by decide)
  · intro i hi; exact absurd hi List.not_mem_nil
theorem staleAll_loop_g {Rt : Option QV → QM → Prop} {S : Nat → QL → List QV → QM → Prop} {T : Int → Option QS} (hT : ∀ a : Int, a = 85 ∨ a = 94 → T a = q_T a) (hR : q_Rule cX11_staleAll 2 u_X11_staleAll fl_X11 ld_X11 G_X11_staleAll T 4 s_X11_staleAll Rt S) : ∀ (n : Nat) (i : Int) (μ : QM), 0 ≤ i → i ≤ 90 → 90 - i < n → Rt none (q_fill μ 94 i 90 0) → S 2 [some (.inr (.inr 85)), some (.inl i)] [] μ := by
  have hT85 := (hT 85 (by omega)).trans T_85
  have hT94 := (hT 94 (by omega)).trans T_94
  intro n
  induction n with
  | zero => intro i μ h1 h2 h3; omega
  | succ n ih =>
    intro i μ h1 h2 h3 h4
    refine hR 40 b_X11_staleAll_2 2 _ _ _ o_X11_staleAll_2 ?_
    simp only [v_opt_n, v_opt_s, v_nil, v_iconst, v_bipush, v_sipush, v_lconst0, v_lconst1, v_ldc, v_ldcw, v_ldc2, v_iload0, v_iload1, v_iload2, v_iload3, v_iload, v_lload0, v_lload1, v_lload2, v_lload3, v_lload, v_aload0, v_aload1, v_aload2, v_aload3, v_aload, v_istore0, v_istore1, v_istore2, v_istore3, v_istore, v_lstore0, v_lstore1, v_lstore2, v_lstore3, v_lstore, v_astore0, v_astore1, v_astore2, v_astore3, v_astore, v_iinc, v_iadd, v_isub, v_imul, v_iand, v_ior, v_ixor, v_ishl, v_ishr, v_iushr, v_ineg, v_idiv, v_irem, v_ladd, v_lsub, v_lmul, v_lcmp, v_i2l, v_l2i, v_i2c, v_dup, v_dup2, v_if_eq, v_if_ne, v_if_lt, v_if_ge, v_if_gt, v_if_le, v_ic_eq, v_ic_ne, v_ic_lt, v_ic_ge, v_ic_gt, v_ic_le, v_goto, v_tsw, v_lsw, v_ireturn, v_areturn, v_return, v_iaload, v_laload, v_baload, v_caload, v_aaload, v_iastore, v_lastore, v_bastore, v_castore, v_alen, v_invvi, v_invst, v_invsp, e_int, e_lng, e_ref, e_lg0, e_lg1, e_lg2, e_lg3, e_lg4, e_lg5, e_lg6, e_lg7, e_lg8, e_lg9, e_lg10, e_lg11, e_lg12, e_lg13, e_clrI, e_clrJ, e_clrP, e_clrN, e_s0, e_s1, e_s2, e_s3, e_s4, e_s5, e_s6, e_s7, e_s8, e_s9, e_s10, e_s11, e_s12, e_s13, e_t0, e_t1, e_t2, e_t3, e_t4, e_t5, e_t6, e_t7, e_t8, e_t9, e_t10, e_t11, e_t12, e_t13, e_fd, e_kk, e_k0, e_k1, e_k2, e_k3, e_k4, e_k5, e_k6, e_k7, e_k8, e_k9, e_sv0, e_sv1, e_sv2, e_sv3, e_svc, e_pf0, e_pf1, e_pf2, e_pf3, e_ar, e_aa, e_al, e_sw1, e_sw2, e_ct0, e_ct1, e_ct2, e_cat0, e_cat1, e_rk0, e_rk1, e_rk2, e_inv0, e_inv1, e_inv2, e_inv3, e_inv4, e_inv5, e_inv6, e_o0, e_o1, e_cl, e_cle, e_cg, e_cge, e_ce, e_cr1, e_cr2, e_r, e_R, e_up, Int.cast_ofNat_Int, u_app, false_and, and_false, e_b0, e_b1, e_bn, e_bl, e_bu, Int.reduceLE, Int.reduceLT, Int.reduceEq, Int.reduceNeg, Int.reduceAdd, Int.reduceSub, Int.reduceMul, Nat.reduceLeDiff, Nat.reduceLT, Nat.reduceAdd, Nat.reduceEqDiff, true_and, and_true, true_or, or_true, false_or, or_false, forall_const, not_true_eq_false, not_false_eq_true, true_implies, false_implies, implies_true, and_self, zero_ne_one, one_ne_zero, eq_self, reduceIte, v_getf, v_putf, List.getElem?_cons_succ, List.getElem?_cons_zero, s_X11_staleAll_0, b_X11_staleAll_0, s_X11_staleAll_2, b_X11_staleAll_2, s_X11_staleAll_8, b_X11_staleAll_8, s_X11_staleAll_21, b_X11_staleAll_21, fl_X11_42, hT94, hT85, hT94]
    refine ⟨by omega, fun c => ?_, fun c => ?_⟩
    · rw [q_fill_e (by omega)] at h4
      exact h4
    · refine ⟨by omega, by omega, ih (i + 1) _ (by omega) (by omega) (by omega) ?_⟩
      rw [q_fill_s (by omega)]
      exact h4
set_option maxRecDepth 100000 in
set_option maxHeartbeats 4000000 in
theorem Bg_X11_staleAll {T : Int → Option QS} (hT : ∀ a : Int, a = 85 ∨ a = 94 → T a = q_T a) : q_Body cX11_staleAll 2 u_X11_staleAll fl_X11 ld_X11 G_X11_staleAll T 4 s_X11_staleAll sp_X11_staleAll := by
  have hT85 := (hT 85 (by omega)).trans T_85
  have hT94 := (hT 94 (by omega)).trans T_94
  intro S Rt hR ra μ h
  obtain ⟨this, rfl, h⟩ := sp_X11_staleAll_i h
  refine ⟨by simp [q_sl, q_ct], ?_⟩
  show S 0 [some (.inr (.inr this)), none] [] μ
  obtain ⟨rfl, h2⟩ := h
  refine hR 40 [] 0 _ _ _ rfl ?_
  simp only [v_opt_n, v_opt_s, v_nil, v_iconst, v_bipush, v_sipush, v_lconst0, v_lconst1, v_ldc, v_ldcw, v_ldc2, v_iload0, v_iload1, v_iload2, v_iload3, v_iload, v_lload0, v_lload1, v_lload2, v_lload3, v_lload, v_aload0, v_aload1, v_aload2, v_aload3, v_aload, v_istore0, v_istore1, v_istore2, v_istore3, v_istore, v_lstore0, v_lstore1, v_lstore2, v_lstore3, v_lstore, v_astore0, v_astore1, v_astore2, v_astore3, v_astore, v_iinc, v_iadd, v_isub, v_imul, v_iand, v_ior, v_ixor, v_ishl, v_ishr, v_iushr, v_ineg, v_idiv, v_irem, v_ladd, v_lsub, v_lmul, v_lcmp, v_i2l, v_l2i, v_i2c, v_dup, v_dup2, v_if_eq, v_if_ne, v_if_lt, v_if_ge, v_if_gt, v_if_le, v_ic_eq, v_ic_ne, v_ic_lt, v_ic_ge, v_ic_gt, v_ic_le, v_goto, v_tsw, v_lsw, v_ireturn, v_areturn, v_return, v_iaload, v_laload, v_baload, v_caload, v_aaload, v_iastore, v_lastore, v_bastore, v_castore, v_alen, v_invvi, v_invst, v_invsp, e_int, e_lng, e_ref, e_lg0, e_lg1, e_lg2, e_lg3, e_lg4, e_lg5, e_lg6, e_lg7, e_lg8, e_lg9, e_lg10, e_lg11, e_lg12, e_lg13, e_clrI, e_clrJ, e_clrP, e_clrN, e_s0, e_s1, e_s2, e_s3, e_s4, e_s5, e_s6, e_s7, e_s8, e_s9, e_s10, e_s11, e_s12, e_s13, e_t0, e_t1, e_t2, e_t3, e_t4, e_t5, e_t6, e_t7, e_t8, e_t9, e_t10, e_t11, e_t12, e_t13, e_fd, e_kk, e_k0, e_k1, e_k2, e_k3, e_k4, e_k5, e_k6, e_k7, e_k8, e_k9, e_sv0, e_sv1, e_sv2, e_sv3, e_svc, e_pf0, e_pf1, e_pf2, e_pf3, e_ar, e_aa, e_al, e_sw1, e_sw2, e_ct0, e_ct1, e_ct2, e_cat0, e_cat1, e_rk0, e_rk1, e_rk2, e_inv0, e_inv1, e_inv2, e_inv3, e_inv4, e_inv5, e_inv6, e_o0, e_o1, e_cl, e_cle, e_cg, e_cge, e_ce, e_cr1, e_cr2, e_r, e_R, e_up, Int.cast_ofNat_Int, u_app, false_and, and_false, e_b0, e_b1, e_bn, e_bl, e_bu, Int.reduceLE, Int.reduceLT, Int.reduceEq, Int.reduceNeg, Int.reduceAdd, Int.reduceSub, Int.reduceMul, Nat.reduceLeDiff, Nat.reduceLT, Nat.reduceAdd, Nat.reduceEqDiff, true_and, and_true, true_or, or_true, false_or, or_false, forall_const, not_true_eq_false, not_false_eq_true, true_implies, false_implies, implies_true, and_self, zero_ne_one, one_ne_zero, eq_self, reduceIte, v_getf, v_putf, List.getElem?_cons_succ, List.getElem?_cons_zero, s_X11_staleAll_0, b_X11_staleAll_0, s_X11_staleAll_2, b_X11_staleAll_2, s_X11_staleAll_8, b_X11_staleAll_8, s_X11_staleAll_21, b_X11_staleAll_21, fl_X11_42, hT85, hT94]
  exact staleAll_loop_g hT hR 91 0 μ (by omega) (by omega) (by omega) h2
set_option maxRecDepth 100000 in
theorem Cg_X11_staleAll {l : Launch} {T : Int → Option QS} {N : List Int} {ad : Int → Nat} {D : va_G} {cy : Nat → ClassId} {Z : State → Prop} (hZ : q_Zok (q_A N ad) Z) (hw : q_wok T N) (hT : ∀ a : Int, a = 85 ∨ a = 94 → T a = q_T a) : q_Ct l T N ad D cy Z yX11_staleAll cX11_staleAll 2 none rm_X11_staleAll sp_X11_staleAll := by
  obtain ⟨hf, hg, hld⟩ := q_chkS k_X11_staleAll
  refine q_met (rk := 4) hw (by decide) rfl hf hg hld rfl (q_skS L_X11_staleAll o_X11_staleAll) ?_ ?_ ?_ ?_ (Bg_X11_staleAll hT)
  · intro i hi; exact absurd hi List.not_mem_nil
  · intro i hi; exact absurd hi List.not_mem_nil
  · intro i hi; exact absurd hi List.not_mem_nil
  · intro i hi; exact absurd hi List.not_mem_nil
theorem clearSheets_loop2_g {Rt : Option QV → QM → Prop} {S : Nat → QL → List QV → QM → Prop} {T : Int → Option QS} (hT : ∀ a : Int, a = 85 ∨ a = 86 ∨ a = 88 ∨ a = 94 → T a = q_T a) (hR : q_Rule cX11_clearSheets 2 u_X11_clearSheets fl_X11 ld_X11 G_X11_clearSheets T 4 s_X11_clearSheets Rt S) : ∀ (n : Nat) (i : Int) (μ : QM), 0 ≤ i → i ≤ 3 → 3 - i < n → Rt none (q_fill (q_fill μ 88 i 3 0) 94 0 90 0) → S 25 [some (.inr (.inr 85)), some (.inl i)] [] μ := by
  have hT85 := (hT 85 (by omega)).trans T_85
  have hT86 := (hT 86 (by omega)).trans T_86
  have hT88 := (hT 88 (by omega)).trans T_88
  intro n
  induction n with
  | zero => intro i μ h1 h2 h3; omega
  | succ n ih =>
    intro i μ h1 h2 h3 h4
    refine hR 40 b_X11_clearSheets_25 25 _ _ _ o_X11_clearSheets_25 ?_
    simp only [v_opt_n, v_opt_s, v_nil, v_iconst, v_bipush, v_sipush, v_lconst0, v_lconst1, v_ldc, v_ldcw, v_ldc2, v_iload0, v_iload1, v_iload2, v_iload3, v_iload, v_lload0, v_lload1, v_lload2, v_lload3, v_lload, v_aload0, v_aload1, v_aload2, v_aload3, v_aload, v_istore0, v_istore1, v_istore2, v_istore3, v_istore, v_lstore0, v_lstore1, v_lstore2, v_lstore3, v_lstore, v_astore0, v_astore1, v_astore2, v_astore3, v_astore, v_iinc, v_iadd, v_isub, v_imul, v_iand, v_ior, v_ixor, v_ishl, v_ishr, v_iushr, v_ineg, v_idiv, v_irem, v_ladd, v_lsub, v_lmul, v_lcmp, v_i2l, v_l2i, v_i2c, v_dup, v_dup2, v_if_eq, v_if_ne, v_if_lt, v_if_ge, v_if_gt, v_if_le, v_ic_eq, v_ic_ne, v_ic_lt, v_ic_ge, v_ic_gt, v_ic_le, v_goto, v_tsw, v_lsw, v_ireturn, v_areturn, v_return, v_iaload, v_laload, v_baload, v_caload, v_aaload, v_iastore, v_lastore, v_bastore, v_castore, v_alen, v_invvi, v_invst, v_invsp, e_int, e_lng, e_ref, e_lg0, e_lg1, e_lg2, e_lg3, e_lg4, e_lg5, e_lg6, e_lg7, e_lg8, e_lg9, e_lg10, e_lg11, e_lg12, e_lg13, e_clrI, e_clrJ, e_clrP, e_clrN, e_s0, e_s1, e_s2, e_s3, e_s4, e_s5, e_s6, e_s7, e_s8, e_s9, e_s10, e_s11, e_s12, e_s13, e_t0, e_t1, e_t2, e_t3, e_t4, e_t5, e_t6, e_t7, e_t8, e_t9, e_t10, e_t11, e_t12, e_t13, e_fd, e_kk, e_k0, e_k1, e_k2, e_k3, e_k4, e_k5, e_k6, e_k7, e_k8, e_k9, e_sv0, e_sv1, e_sv2, e_sv3, e_svc, e_pf0, e_pf1, e_pf2, e_pf3, e_ar, e_aa, e_al, e_sw1, e_sw2, e_ct0, e_ct1, e_ct2, e_cat0, e_cat1, e_rk0, e_rk1, e_rk2, e_inv0, e_inv1, e_inv2, e_inv3, e_inv4, e_inv5, e_inv6, e_o0, e_o1, e_cl, e_cle, e_cg, e_cge, e_ce, e_cr1, e_cr2, e_r, e_R, e_up, Int.cast_ofNat_Int, u_app, false_and, and_false, e_b0, e_b1, e_bn, e_bl, e_bu, Int.reduceLE, Int.reduceLT, Int.reduceEq, Int.reduceNeg, Int.reduceAdd, Int.reduceSub, Int.reduceMul, Nat.reduceLeDiff, Nat.reduceLT, Nat.reduceAdd, Nat.reduceEqDiff, true_and, and_true, true_or, or_true, false_or, or_false, forall_const, not_true_eq_false, not_false_eq_true, true_implies, false_implies, implies_true, and_self, zero_ne_one, one_ne_zero, eq_self, reduceIte, v_getf, v_putf, List.getElem?_cons_succ, List.getElem?_cons_zero, s_X11_clearSheets_0, b_X11_clearSheets_0, s_X11_clearSheets_2, b_X11_clearSheets_2, s_X11_clearSheets_9, b_X11_clearSheets_9, s_X11_clearSheets_23, b_X11_clearSheets_23, s_X11_clearSheets_25, b_X11_clearSheets_25, s_X11_clearSheets_30, b_X11_clearSheets_30, s_X11_clearSheets_43, b_X11_clearSheets_43, fl_X11_16, fl_X11_23, ld_X11_91, G_X11_clearSheets_92, sp_X11_staleAll_e, hT88, hT85, hT86, hT88]
    refine ⟨by omega, fun c => ?_, fun c => ?_⟩
    · rw [q_fill_e (a := 88) (by omega)] at h4
      exact h4
    · refine ⟨by omega, by omega, ih (i + 1) _ (by omega) (by omega) (by omega) ?_⟩
      rw [q_fill_s (by omega)]
      exact h4
theorem clearSheets_loop_g {Rt : Option QV → QM → Prop} {S : Nat → QL → List QV → QM → Prop} {T : Int → Option QS} (hT : ∀ a : Int, a = 85 ∨ a = 86 ∨ a = 88 ∨ a = 94 → T a = q_T a) (hR : q_Rule cX11_clearSheets 2 u_X11_clearSheets fl_X11 ld_X11 G_X11_clearSheets T 4 s_X11_clearSheets Rt S) : ∀ (n : Nat) (i : Int) (μ : QM), 0 ≤ i → i ≤ 576 → 576 - i < n → Rt none (q_fill (q_fill (q_fill μ 86 i 576 (-2000000000)) 88 0 3 0) 94 0 90 0) → S 2 [some (.inr (.inr 85)), some (.inl i)] [] μ := by
  have hT85 := (hT 85 (by omega)).trans T_85
  have hT86 := (hT 86 (by omega)).trans T_86
  have hT88 := (hT 88 (by omega)).trans T_88
  intro n
  induction n with
  | zero => intro i μ h1 h2 h3; omega
  | succ n ih =>
    intro i μ h1 h2 h3 h4
    refine hR 40 b_X11_clearSheets_2 2 _ _ _ o_X11_clearSheets_2 ?_
    simp only [v_opt_n, v_opt_s, v_nil, v_iconst, v_bipush, v_sipush, v_lconst0, v_lconst1, v_ldc, v_ldcw, v_ldc2, v_iload0, v_iload1, v_iload2, v_iload3, v_iload, v_lload0, v_lload1, v_lload2, v_lload3, v_lload, v_aload0, v_aload1, v_aload2, v_aload3, v_aload, v_istore0, v_istore1, v_istore2, v_istore3, v_istore, v_lstore0, v_lstore1, v_lstore2, v_lstore3, v_lstore, v_astore0, v_astore1, v_astore2, v_astore3, v_astore, v_iinc, v_iadd, v_isub, v_imul, v_iand, v_ior, v_ixor, v_ishl, v_ishr, v_iushr, v_ineg, v_idiv, v_irem, v_ladd, v_lsub, v_lmul, v_lcmp, v_i2l, v_l2i, v_i2c, v_dup, v_dup2, v_if_eq, v_if_ne, v_if_lt, v_if_ge, v_if_gt, v_if_le, v_ic_eq, v_ic_ne, v_ic_lt, v_ic_ge, v_ic_gt, v_ic_le, v_goto, v_tsw, v_lsw, v_ireturn, v_areturn, v_return, v_iaload, v_laload, v_baload, v_caload, v_aaload, v_iastore, v_lastore, v_bastore, v_castore, v_alen, v_invvi, v_invst, v_invsp, e_int, e_lng, e_ref, e_lg0, e_lg1, e_lg2, e_lg3, e_lg4, e_lg5, e_lg6, e_lg7, e_lg8, e_lg9, e_lg10, e_lg11, e_lg12, e_lg13, e_clrI, e_clrJ, e_clrP, e_clrN, e_s0, e_s1, e_s2, e_s3, e_s4, e_s5, e_s6, e_s7, e_s8, e_s9, e_s10, e_s11, e_s12, e_s13, e_t0, e_t1, e_t2, e_t3, e_t4, e_t5, e_t6, e_t7, e_t8, e_t9, e_t10, e_t11, e_t12, e_t13, e_fd, e_kk, e_k0, e_k1, e_k2, e_k3, e_k4, e_k5, e_k6, e_k7, e_k8, e_k9, e_sv0, e_sv1, e_sv2, e_sv3, e_svc, e_pf0, e_pf1, e_pf2, e_pf3, e_ar, e_aa, e_al, e_sw1, e_sw2, e_ct0, e_ct1, e_ct2, e_cat0, e_cat1, e_rk0, e_rk1, e_rk2, e_inv0, e_inv1, e_inv2, e_inv3, e_inv4, e_inv5, e_inv6, e_o0, e_o1, e_cl, e_cle, e_cg, e_cge, e_ce, e_cr1, e_cr2, e_r, e_R, e_up, Int.cast_ofNat_Int, u_app, false_and, and_false, e_b0, e_b1, e_bn, e_bl, e_bu, Int.reduceLE, Int.reduceLT, Int.reduceEq, Int.reduceNeg, Int.reduceAdd, Int.reduceSub, Int.reduceMul, Nat.reduceLeDiff, Nat.reduceLT, Nat.reduceAdd, Nat.reduceEqDiff, true_and, and_true, true_or, or_true, false_or, or_false, forall_const, not_true_eq_false, not_false_eq_true, true_implies, false_implies, implies_true, and_self, zero_ne_one, one_ne_zero, eq_self, reduceIte, v_getf, v_putf, List.getElem?_cons_succ, List.getElem?_cons_zero, s_X11_clearSheets_0, b_X11_clearSheets_0, s_X11_clearSheets_2, b_X11_clearSheets_2, s_X11_clearSheets_9, b_X11_clearSheets_9, s_X11_clearSheets_23, b_X11_clearSheets_23, s_X11_clearSheets_25, b_X11_clearSheets_25, s_X11_clearSheets_30, b_X11_clearSheets_30, s_X11_clearSheets_43, b_X11_clearSheets_43, fl_X11_16, fl_X11_23, ld_X11_91, G_X11_clearSheets_92, sp_X11_staleAll_e, hT86, hT85, hT86, hT88]
    refine ⟨by omega, fun c => ?_, fun c => ?_⟩
    · rw [q_fill_e (a := 86) (by omega)] at h4
      exact clearSheets_loop2_g hT hR 4 0 μ (by omega) (by omega) (by omega) h4
    · refine ⟨by omega, by omega, ih (i + 1) _ (by omega) (by omega) (by omega) ?_⟩
      rw [q_fill_s (by omega)]
      exact h4
set_option maxRecDepth 100000 in
set_option maxHeartbeats 4000000 in
theorem Bg_X11_clearSheets {T : Int → Option QS} (hT : ∀ a : Int, a = 85 ∨ a = 86 ∨ a = 88 ∨ a = 94 → T a = q_T a) : q_Body cX11_clearSheets 2 u_X11_clearSheets fl_X11 ld_X11 G_X11_clearSheets T 4 s_X11_clearSheets sp_X11_clearSheets := by
  have hT85 := (hT 85 (by omega)).trans T_85
  have hT86 := (hT 86 (by omega)).trans T_86
  have hT88 := (hT 88 (by omega)).trans T_88
  intro S Rt hR ra μ h
  obtain ⟨this, rfl, h⟩ := sp_X11_clearSheets_i h
  refine ⟨by simp [q_sl, q_ct], ?_⟩
  show S 0 [some (.inr (.inr this)), none] [] μ
  obtain ⟨rfl, h2⟩ := h
  refine hR 40 [] 0 _ _ _ rfl ?_
  simp only [v_opt_n, v_opt_s, v_nil, v_iconst, v_bipush, v_sipush, v_lconst0, v_lconst1, v_ldc, v_ldcw, v_ldc2, v_iload0, v_iload1, v_iload2, v_iload3, v_iload, v_lload0, v_lload1, v_lload2, v_lload3, v_lload, v_aload0, v_aload1, v_aload2, v_aload3, v_aload, v_istore0, v_istore1, v_istore2, v_istore3, v_istore, v_lstore0, v_lstore1, v_lstore2, v_lstore3, v_lstore, v_astore0, v_astore1, v_astore2, v_astore3, v_astore, v_iinc, v_iadd, v_isub, v_imul, v_iand, v_ior, v_ixor, v_ishl, v_ishr, v_iushr, v_ineg, v_idiv, v_irem, v_ladd, v_lsub, v_lmul, v_lcmp, v_i2l, v_l2i, v_i2c, v_dup, v_dup2, v_if_eq, v_if_ne, v_if_lt, v_if_ge, v_if_gt, v_if_le, v_ic_eq, v_ic_ne, v_ic_lt, v_ic_ge, v_ic_gt, v_ic_le, v_goto, v_tsw, v_lsw, v_ireturn, v_areturn, v_return, v_iaload, v_laload, v_baload, v_caload, v_aaload, v_iastore, v_lastore, v_bastore, v_castore, v_alen, v_invvi, v_invst, v_invsp, e_int, e_lng, e_ref, e_lg0, e_lg1, e_lg2, e_lg3, e_lg4, e_lg5, e_lg6, e_lg7, e_lg8, e_lg9, e_lg10, e_lg11, e_lg12, e_lg13, e_clrI, e_clrJ, e_clrP, e_clrN, e_s0, e_s1, e_s2, e_s3, e_s4, e_s5, e_s6, e_s7, e_s8, e_s9, e_s10, e_s11, e_s12, e_s13, e_t0, e_t1, e_t2, e_t3, e_t4, e_t5, e_t6, e_t7, e_t8, e_t9, e_t10, e_t11, e_t12, e_t13, e_fd, e_kk, e_k0, e_k1, e_k2, e_k3, e_k4, e_k5, e_k6, e_k7, e_k8, e_k9, e_sv0, e_sv1, e_sv2, e_sv3, e_svc, e_pf0, e_pf1, e_pf2, e_pf3, e_ar, e_aa, e_al, e_sw1, e_sw2, e_ct0, e_ct1, e_ct2, e_cat0, e_cat1, e_rk0, e_rk1, e_rk2, e_inv0, e_inv1, e_inv2, e_inv3, e_inv4, e_inv5, e_inv6, e_o0, e_o1, e_cl, e_cle, e_cg, e_cge, e_ce, e_cr1, e_cr2, e_r, e_R, e_up, Int.cast_ofNat_Int, u_app, false_and, and_false, e_b0, e_b1, e_bn, e_bl, e_bu, Int.reduceLE, Int.reduceLT, Int.reduceEq, Int.reduceNeg, Int.reduceAdd, Int.reduceSub, Int.reduceMul, Nat.reduceLeDiff, Nat.reduceLT, Nat.reduceAdd, Nat.reduceEqDiff, true_and, and_true, true_or, or_true, false_or, or_false, forall_const, not_true_eq_false, not_false_eq_true, true_implies, false_implies, implies_true, and_self, zero_ne_one, one_ne_zero, eq_self, reduceIte, v_getf, v_putf, List.getElem?_cons_succ, List.getElem?_cons_zero, s_X11_clearSheets_0, b_X11_clearSheets_0, s_X11_clearSheets_2, b_X11_clearSheets_2, s_X11_clearSheets_9, b_X11_clearSheets_9, s_X11_clearSheets_23, b_X11_clearSheets_23, s_X11_clearSheets_25, b_X11_clearSheets_25, s_X11_clearSheets_30, b_X11_clearSheets_30, s_X11_clearSheets_43, b_X11_clearSheets_43, fl_X11_16, fl_X11_23, ld_X11_91, G_X11_clearSheets_92, sp_X11_staleAll_e, hT85, hT86, hT88]
  exact clearSheets_loop_g hT hR 577 0 μ (by omega) (by omega) (by omega) h2
set_option maxRecDepth 100000 in
theorem Cg_X11_clearSheets {l : Launch} {T : Int → Option QS} {N : List Int} {ad : Int → Nat} {D : va_G} {cy : Nat → ClassId} {Z : State → Prop} (hZ : q_Zok (q_A N ad) Z) (hw : q_wok T N) (hT : ∀ a : Int, a = 85 ∨ a = 86 ∨ a = 88 ∨ a = 94 → T a = q_T a) : q_Ct l T N ad D cy Z yX11_clearSheets cX11_clearSheets 2 none rm_X11_clearSheets sp_X11_clearSheets := by
  obtain ⟨hf, hg, hld⟩ := q_chkS k_X11_clearSheets
  refine q_met (rk := 4) hw (by decide) rfl hf hg hld rfl (q_skS L_X11_clearSheets o_X11_clearSheets) ?_ ?_ ?_ ?_ (Bg_X11_clearSheets hT)
  · intro i hi; exact absurd hi List.not_mem_nil
  · intro i hi
    have hi : i = 92 := by simpa [u_X11_clearSheets] using hi
    rcases hi with rfl
    · exact q_crV hZ (Cg_X11_staleAll hZ hw (fun a q => hT a (by omega))) (fun ra μ K h => by obtain ⟨this, rfl, rfl, _⟩ := sp_X11_staleAll_i h; exact ⟨[], 85, 11, _, _, rfl, (hT 85 (by omega)).trans T_85, rfl, rfl⟩) cm_X11_staleAll (by decide +kernel) (by decide +kernel) (by decide +kernel) (by decide +kernel) (by decide +kernel) ⟨rfl, rfl⟩ (by decide)
  · intro i hi; exact absurd hi List.not_mem_nil
  · intro i hi; exact absurd hi List.not_mem_nil

