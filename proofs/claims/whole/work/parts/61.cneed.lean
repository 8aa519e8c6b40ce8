/-! the class: needs -/
abbrev c_kM (μ : QM) (P : Int) : Int → Int := fun b => μ (P + 3 + b) 2
abbrev c_rM (μ : QM) (P : Int) : Int → Int := fun b => μ (P + 3 + b) 4
abbrev c_mM (μ : QM) (P : Int) : Int → Int := fun b => μ (P + 3 + b) 1
abbrev c_oM (μ : QM) (P : Int) : Int → Int → Int := fun b k => μ (P + 3 + b + 10) k
def sp_X9_across : QP := fun ra μ K => match ra with
  | [.inl some9, .inr (.inr recipe), .inr (.inr this)] => this = 20 ∧ q_rc recipe ∧ (q_r (μ recipe 2) ∧ q_r some9) ∧ ∃ w h : Int, μ 1 2 = q_tm w h ∧ K (some (.inl (q_need w h (μ recipe 2) some9))) μ
  | _ => False
theorem sp_X9_across_e (this recipe some9 : Int) (μ : QM) (K : Option QV → QM → Prop) : sp_X9_across [.inl some9, .inr (.inr recipe), .inr (.inr this)] μ K = (this = 20 ∧ q_rc recipe ∧ (q_r (μ recipe 2) ∧ q_r some9) ∧ ∃ w h : Int, μ 1 2 = q_tm w h ∧ K (some (.inl (q_need w h (μ recipe 2) some9))) μ) := propext Iff.rfl
theorem sp_X9_across_i {ra : List QV} {μ : QM} {K : Option QV → QM → Prop} (h : sp_X9_across ra μ K) : ∃ this recipe some9 : Int, ra = [.inl some9, .inr (.inr recipe), .inr (.inr this)] ∧ (this = 20 ∧ q_rc recipe ∧ (q_r (μ recipe 2) ∧ q_r some9) ∧ ∃ w h : Int, μ 1 2 = q_tm w h ∧ K (some (.inl (q_need w h (μ recipe 2) some9))) μ) := by
  unfold sp_X9_across at h
  split at h
  · exact ⟨_, _, _, rfl, h⟩
  · exact h.elim
def rm_X9_across : Room := { frames := 1, cells := 0, slots := 0, locals := 22 }
def G_X9_across : Nat → Nat × QP := fun i => match i with
  | 99 => (1, sp_X4_isWhole)
  | 108 => (2, sp_X0_around)
  | _ => (0, fun _ _ _ => False)
theorem G_X9_across_99 : G_X9_across 99 = (1, sp_X4_isWhole) := id rfl
theorem G_X9_across_108 : G_X9_across 108 = (2, sp_X0_around) := id rfl
set_option maxRecDepth 100000 in
set_option maxHeartbeats 4000000 in
theorem B_X9_across : q_Body cX9_across 3 u_X9_across fl_X9 ld_X9 G_X9_across q_T 0 s_X9_across sp_X9_across := by
  intro S Rt hR ra μ h
  obtain ⟨this, recipe, some9, rfl, h⟩ := sp_X9_across_i h
  refine ⟨by simp [q_sl, q_ct], ?_⟩
  show S 0 [some (.inr (.inr this)), some (.inr (.inr recipe)), some (.inl some9)] [] μ
  obtain ⟨rfl, h1, h2, w, h, e, hk⟩ := h
  have hT := T_rec h1
  have h0 : 0 ≤ recipe := by omega
  unfold q_need at hk
  refine hR 40 [] 0 _ _ _ rfl ?_
  simp only [v_opt_n, v_opt_s, v_nil, v_iconst, v_bipush, v_sipush, v_lconst0, v_lconst1, v_ldc, v_ldcw, v_ldc2, v_iload0, v_iload1, v_iload2, v_iload3, v_iload, v_lload0, v_lload1, v_lload2, v_lload3, v_lload, v_aload0, v_aload1, v_aload2, v_aload3, v_aload, v_istore0, v_istore1, v_istore2, v_istore3, v_istore, v_lstore0, v_lstore1, v_lstore2, v_lstore3, v_lstore, v_astore0, v_astore1, v_astore2, v_astore3, v_astore, v_iinc, v_iadd, v_isub, v_imul, v_iand, v_ior, v_ixor, v_ishl, v_ishr, v_iushr, v_ineg, v_idiv, v_irem, v_ladd, v_lsub, v_lmul, v_lcmp, v_i2l, v_l2i, v_i2c, v_dup, v_dup2, v_if_eq, v_if_ne, v_if_lt, v_if_ge, v_if_gt, v_if_le, v_ic_eq, v_ic_ne, v_ic_lt, v_ic_ge, v_ic_gt, v_ic_le, v_goto, v_tsw, v_lsw, v_ireturn, v_areturn, v_return, v_iaload, v_laload, v_baload, v_caload, v_aaload, v_iastore, v_lastore, v_bastore, v_castore, v_alen, v_invvi, v_invst, v_invsp, e_int, e_lng, e_ref, e_lg0, e_lg1, e_lg2, e_lg3, e_lg4, e_lg5, e_lg6, e_lg7, e_lg8, e_lg9, e_lg10, e_lg11, e_lg12, e_lg13, e_clrI, e_clrJ, e_clrP, e_clrN, e_s0, e_s1, e_s2, e_s3, e_s4, e_s5, e_s6, e_s7, e_s8, e_s9, e_s10, e_s11, e_s12, e_s13, e_t0, e_t1, e_t2, e_t3, e_t4, e_t5, e_t6, e_t7, e_t8, e_t9, e_t10, e_t11, e_t12, e_t13, e_fd, e_kk, e_k0, e_k1, e_k2, e_k3, e_k4, e_k5, e_k6, e_k7, e_k8, e_k9, e_sv0, e_sv1, e_sv2, e_sv3, e_svc, e_pf0, e_pf1, e_pf2, e_pf3, e_ar, e_aa, e_al, e_sw1, e_sw2, e_ct0, e_ct1, e_ct2, e_cat0, e_cat1, e_rk0, e_rk1, e_rk2, e_inv0, e_inv1, e_inv2, e_inv3, e_inv4, e_inv5, e_inv6, e_o0, e_o1, e_cl, e_cle, e_cg, e_cge, e_ce, e_cr1, e_cr2, e_r, e_R, e_up, Int.cast_ofNat_Int, u_app, false_and, and_false, e_b0, e_b1, e_bn, e_bl, e_bu, Int.reduceLE, Int.reduceLT, Int.reduceEq, Int.reduceNeg, Int.reduceAdd, Int.reduceSub, Int.reduceMul, Nat.reduceLeDiff, Nat.reduceLT, Nat.reduceAdd, Nat.reduceEqDiff, true_and, and_true, true_or, or_true, false_or, or_false, forall_const, not_true_eq_false, not_false_eq_true, true_implies, false_implies, implies_true, and_self, zero_ne_one, one_ne_zero, eq_self, reduceIte, v_getf, v_putf, s_X9_across_0, b_X9_across_0, s_X9_across_7, b_X9_across_7, s_X9_across_11, b_X9_across_11, s_X9_across_15, b_X9_across_15, s_X9_across_22, b_X9_across_22, s_X9_across_23, b_X9_across_23, s_X9_across_32, b_X9_across_32, s_X9_across_43, b_X9_across_43, s_X9_across_44, b_X9_across_44, fl_X9_23, T_20, fl_X9_103, T_1, fl_X9_73, G_X9_across_99, sp_X4_isWhole_e, G_X9_across_108, sp_X0_around_e, hT, e]
  refine ⟨h0, h1, h2.1, fun c => ⟨h0, h2.1, fun c1 => ?_, fun c1 => ?_⟩, fun c => ⟨h2.2, fun c1 => ?_, fun c1 => ?_⟩⟩
  · rw [if_neg c, if_neg c1] at hk
    exact hk
  · rw [if_neg c, if_pos c1] at hk
    exact hk
  · rw [if_pos (Classical.not_not.mp c), if_neg c1] at hk
    exact hk
  · rw [if_pos (Classical.not_not.mp c), if_pos c1] at hk
    exact hk
set_option maxRecDepth 100000 in
theorem C_X9_across {l : Launch} {ad : Int → Nat} {D : va_G} {cy : Nat → ClassId} {Z : State → Prop} (hZ : q_Zg ad Z) : q_Ct l q_T q_N ad D cy Z yX9_across cX9_across 3 (some .int) rm_X9_across sp_X9_across := by
  obtain ⟨hf, hg, hld⟩ := q_chkS k_X9_across
  refine q_met (rk := 0) q_wokT (by decide) rfl hf hg hld rfl (q_skS L_X9_across o_X9_across) ?_ ?_ ?_ ?_ B_X9_across
  · intro i hi; exact absurd hi List.not_mem_nil
  · intro i hi
    have hi : i = 99 ∨ i = 108 := by simpa [u_X9_across] using hi
    rcases hi with rfl | rfl
    · exact q_crV hZ.1 (C_X4_isWhole hZ) rv_X4_isWhole cm_X4_isWhole (by decide +kernel) (by decide +kernel) (by decide +kernel) (by decide +kernel) (by decide +kernel) ⟨rfl, rfl⟩ (by decide)
    · exact q_crV hZ.1 (C_X0_around hZ) rv_X0_around cm_X0_around (by decide +kernel) (by decide +kernel) (by decide +kernel) (by decide +kernel) (by decide +kernel) ⟨rfl, rfl⟩ (by decide)
  · intro i hi; exact absurd hi List.not_mem_nil
  · intro i hi; exact absurd hi List.not_mem_nil
theorem rv_X9_across : q_rcv q_T yX9_across.cls sp_X9_across := by
  intro ra μ K h
  obtain ⟨this, recipe, some9, rfl, h⟩ := sp_X9_across_i h
  obtain rfl := h.1
  exact ⟨[.inl some9, .inr (.inr recipe)], 20, 9, _, _, rfl, T_20, rfl, rfl⟩
theorem cm_X9_across : Cond.code yX9_across cX9_across 3 (some .int) ∈ q_tb := by decide +kernel
/-- what the works stand on -/
def c_wk (μ : QM) (P w h n : Int) : Prop := q_pl P ∧ μ 20 5 = P ∧ μ 1 2 = q_tm w h ∧ m_rok (c_kM μ P) (c_rM μ P) (c_mM μ P) (c_oM μ P) n
def sp_X9_reachNeeded : QP := fun ra μ K => match ra with
  | [.inl tile, .inl board, .inr (.inr this)] => this = 20 ∧ (0 ≤ board ∧ board < 10) ∧ ∃ P w h : Int, c_wk μ P w h (board + 1) ∧ m_tl w h tile ∧ K none (q_blk μ 22 10 (m_nd w h (c_kM μ P) (c_mM μ P) (c_oM μ P) board tile))
  | _ => False
theorem sp_X9_reachNeeded_e (this board tile : Int) (μ : QM) (K : Option QV → QM → Prop) : sp_X9_reachNeeded [.inl tile, .inl board, .inr (.inr this)] μ K = (this = 20 ∧ (0 ≤ board ∧ board < 10) ∧ ∃ P w h : Int, c_wk μ P w h (board + 1) ∧ m_tl w h tile ∧ K none (q_blk μ 22 10 (m_nd w h (c_kM μ P) (c_mM μ P) (c_oM μ P) board tile))) := propext Iff.rfl
theorem sp_X9_reachNeeded_i {ra : List QV} {μ : QM} {K : Option QV → QM → Prop} (h : sp_X9_reachNeeded ra μ K) : ∃ this board tile : Int, ra = [.inl tile, .inl board, .inr (.inr this)] ∧ (this = 20 ∧ (0 ≤ board ∧ board < 10) ∧ ∃ P w h : Int, c_wk μ P w h (board + 1) ∧ m_tl w h tile ∧ K none (q_blk μ 22 10 (m_nd w h (c_kM μ P) (c_mM μ P) (c_oM μ P) board tile))) := by
  unfold sp_X9_reachNeeded at h
  split at h
  · exact ⟨_, _, _, rfl, h⟩
  · exact h.elim
def rm_X9_reachNeeded : Room := { frames := 2, cells := 0, slots := 0, locals := 44 }
def G_X9_reachNeeded : Nat → Nat × QP := fun i => match i with
  | 95 => (3, sp_X9_across)
  | 43 => (2, sp_J7_fill_53178)
  | _ => (0, fun _ _ _ => False)
theorem G_X9_reachNeeded_95 : G_X9_reachNeeded 95 = (3, sp_X9_across) := id rfl
theorem G_X9_reachNeeded_43 : G_X9_reachNeeded 43 = (2, sp_J7_fill_53178) := id rfl
set_option maxRecDepth 100000 in
theorem rn_k {Rt : Option QV → QM → Prop} {S : Nat → QL → List QV → QM → Prop} (hR : q_Rule cX9_reachNeeded 7 u_X9_reachNeeded fl_X9 ld_X9 G_X9_reachNeeded q_T 4 s_X9_reachNeeded Rt S) {μ : QM} {B t b its r : Int} (hr : q_rc r) (hb : 0 ≤ b ∧ b < 10) (hm : 0 ≤ μ r 1 ∧ μ r 1 ≤ 3) (ho : ∀ k : Int, 0 ≤ k → k < μ r 1 → 0 ≤ μ (r + 10) k ∧ μ (r + 10) k < b) : ∀ (d : Nat) (k : Int) (n : Int → Int), 0 ≤ k → k + d = μ r 1 → (∀ l4 l5 l6 : Option QV, S 19 [some (.inr (.inr 20)), some (.inl B), some (.inl t), some (.inl (b + -1)), l4, l5, l6] [] (q_blk μ 22 10 (m_ndx its (fun k => μ (r + 10) k) d k n))) → S 51 [some (.inr (.inr 20)), some (.inl B), some (.inl t), some (.inl b), some (.inr (.inr r)), some (.inl its), some (.inl k)] [] (q_blk μ 22 10 n) := by
  intro d
  have hT := T_rec hr
  have hT2 := T_nmd hr
  have h0 : 0 ≤ r := by omega
  have e1 : ∀ (n : Int → Int) (j : Int), q_blk μ 22 10 n r j = μ r j := fun n j => by rw [u_blk, if_neg (by omega)]
  have e2 : ∀ (n : Int → Int) (j : Int), q_blk μ 22 10 n (r + 10) j = μ (r + 10) j := fun n j => by rw [u_blk, if_neg (by omega)]
  induction d with
  | zero =>
    intro k n h1 h2 hk
    refine hR 60 b_X9_reachNeeded_51 51 _ _ _ o_X9_reachNeeded_51 ?_
    simp only [v_opt_n, v_opt_s, v_nil, v_iconst, v_bipush, v_sipush, v_lconst0, v_lconst1, v_ldc, v_ldcw, v_ldc2, v_iload0, v_iload1, v_iload2, v_iload3, v_iload, v_lload0, v_lload1, v_lload2, v_lload3, v_lload, v_aload0, v_aload1, v_aload2, v_aload3, v_aload, v_istore0, v_istore1, v_istore2, v_istore3, v_istore, v_lstore0, v_lstore1, v_lstore2, v_lstore3, v_lstore, v_astore0, v_astore1, v_astore2, v_astore3, v_astore, v_iinc, v_iadd, v_isub, v_imul, v_iand, v_ior, v_ixor, v_ishl, v_ishr, v_iushr, v_ineg, v_idiv, v_irem, v_ladd, v_lsub, v_lmul, v_lcmp, v_i2l, v_l2i, v_i2c, v_dup, v_dup2, v_if_eq, v_if_ne, v_if_lt, v_if_ge, v_if_gt, v_if_le, v_ic_eq, v_ic_ne, v_ic_lt, v_ic_ge, v_ic_gt, v_ic_le, v_goto, v_tsw, v_lsw, v_ireturn, v_areturn, v_return, v_iaload, v_laload, v_baload, v_caload, v_aaload, v_iastore, v_lastore, v_bastore, v_castore, v_alen, v_invvi, v_invst, v_invsp, e_int, e_lng, e_ref, e_lg0, e_lg1, e_lg2, e_lg3, e_lg4, e_lg5, e_lg6, e_lg7, e_lg8, e_lg9, e_lg10, e_lg11, e_lg12, e_lg13, e_clrI, e_clrJ, e_clrP, e_clrN, e_s0, e_s1, e_s2, e_s3, e_s4, e_s5, e_s6, e_s7, e_s8, e_s9, e_s10, e_s11, e_s12, e_s13, e_t0, e_t1, e_t2, e_t3, e_t4, e_t5, e_t6, e_t7, e_t8, e_t9, e_t10, e_t11, e_t12, e_t13, e_fd, e_kk, e_k0, e_k1, e_k2, e_k3, e_k4, e_k5, e_k6, e_k7, e_k8, e_k9, e_sv0, e_sv1, e_sv2, e_sv3, e_svc, e_pf0, e_pf1, e_pf2, e_pf3, e_ar, e_aa, e_al, e_sw1, e_sw2, e_ct0, e_ct1, e_ct2, e_cat0, e_cat1, e_rk0, e_rk1, e_rk2, e_inv0, e_inv1, e_inv2, e_inv3, e_inv4, e_inv5, e_inv6, e_o0, e_o1, e_cl, e_cle, e_cg, e_cge, e_ce, e_cr1, e_cr2, e_r, e_R, e_up, Int.cast_ofNat_Int, u_app, false_and, and_false, e_b0, e_b1, e_bn, e_bl, e_bu, Int.reduceLE, Int.reduceLT, Int.reduceEq, Int.reduceNeg, Int.reduceAdd, Int.reduceSub, Int.reduceMul, Nat.reduceLeDiff, Nat.reduceLT, Nat.reduceAdd, Nat.reduceEqDiff, true_and, and_true, true_or, or_true, false_or, or_false, forall_const, not_true_eq_false, not_false_eq_true, true_implies, false_implies, implies_true, and_self, zero_ne_one, one_ne_zero, eq_self, reduceIte, v_getf, v_putf, s_X9_reachNeeded_0, b_X9_reachNeeded_0, s_X9_reachNeeded_19, b_X9_reachNeeded_19, s_X9_reachNeeded_23, b_X9_reachNeeded_23, s_X9_reachNeeded_51, b_X9_reachNeeded_51, s_X9_reachNeeded_61, b_X9_reachNeeded_61, s_X9_reachNeeded_85, b_X9_reachNeeded_85, s_X9_reachNeeded_91, b_X9_reachNeeded_91, fl_X9_15, T_20, fl_X9_27, fl_X9_67, fl_X9_89, fl_X9_92, G_X9_reachNeeded_95, sp_X9_across_e, G_X9_reachNeeded_43, sp_J7_fill_53178_e, T_22, hT, hT2, e1, e2]
    exact ⟨h0, by omega, fun _ => hk _ _ _, fun c => by omega⟩
  | succ d ih =>
    intro k n h1 h2 hk
    have h3 := ho k h1 (by omega)
    have e3 : q_blk μ 22 10 n 22 (μ (r + 10) k) = n (μ (r + 10) k) := by rw [u_blk, if_pos (by omega)]
    refine hR 60 b_X9_reachNeeded_51 51 _ _ _ o_X9_reachNeeded_51 ?_
    simp only [v_opt_n, v_opt_s, v_nil, v_iconst, v_bipush, v_sipush, v_lconst0, v_lconst1, v_ldc, v_ldcw, v_ldc2, v_iload0, v_iload1, v_iload2, v_iload3, v_iload, v_lload0, v_lload1, v_lload2, v_lload3, v_lload, v_aload0, v_aload1, v_aload2, v_aload3, v_aload, v_istore0, v_istore1, v_istore2, v_istore3, v_istore, v_lstore0, v_lstore1, v_lstore2, v_lstore3, v_lstore, v_astore0, v_astore1, v_astore2, v_astore3, v_astore, v_iinc, v_iadd, v_isub, v_imul, v_iand, v_ior, v_ixor, v_ishl, v_ishr, v_iushr, v_ineg, v_idiv, v_irem, v_ladd, v_lsub, v_lmul, v_lcmp, v_i2l, v_l2i, v_i2c, v_dup, v_dup2, v_if_eq, v_if_ne, v_if_lt, v_if_ge, v_if_gt, v_if_le, v_ic_eq, v_ic_ne, v_ic_lt, v_ic_ge, v_ic_gt, v_ic_le, v_goto, v_tsw, v_lsw, v_ireturn, v_areturn, v_return, v_iaload, v_laload, v_baload, v_caload, v_aaload, v_iastore, v_lastore, v_bastore, v_castore, v_alen, v_invvi, v_invst, v_invsp, e_int, e_lng, e_ref, e_lg0, e_lg1, e_lg2, e_lg3, e_lg4, e_lg5, e_lg6, e_lg7, e_lg8, e_lg9, e_lg10, e_lg11, e_lg12, e_lg13, e_clrI, e_clrJ, e_clrP, e_clrN, e_s0, e_s1, e_s2, e_s3, e_s4, e_s5, e_s6, e_s7, e_s8, e_s9, e_s10, e_s11, e_s12, e_s13, e_t0, e_t1, e_t2, e_t3, e_t4, e_t5, e_t6, e_t7, e_t8, e_t9, e_t10, e_t11, e_t12, e_t13, e_fd, e_kk, e_k0, e_k1, e_k2, e_k3, e_k4, e_k5, e_k6, e_k7, e_k8, e_k9, e_sv0, e_sv1, e_sv2, e_sv3, e_svc, e_pf0, e_pf1, e_pf2, e_pf3, e_ar, e_aa, e_al, e_sw1, e_sw2, e_ct0, e_ct1, e_ct2, e_cat0, e_cat1, e_rk0, e_rk1, e_rk2, e_inv0, e_inv1, e_inv2, e_inv3, e_inv4, e_inv5, e_inv6, e_o0, e_o1, e_cl, e_cle, e_cg, e_cge, e_ce, e_cr1, e_cr2, e_r, e_R, e_up, Int.cast_ofNat_Int, u_app, false_and, and_false, e_b0, e_b1, e_bn, e_bl, e_bu, Int.reduceLE, Int.reduceLT, Int.reduceEq, Int.reduceNeg, Int.reduceAdd, Int.reduceSub, Int.reduceMul, Nat.reduceLeDiff, Nat.reduceLT, Nat.reduceAdd, Nat.reduceEqDiff, true_and, and_true, true_or, or_true, false_or, or_false, forall_const, not_true_eq_false, not_false_eq_true, true_implies, false_implies, implies_true, and_self, zero_ne_one, one_ne_zero, eq_self, reduceIte, v_getf, v_putf, s_X9_reachNeeded_0, b_X9_reachNeeded_0, s_X9_reachNeeded_19, b_X9_reachNeeded_19, s_X9_reachNeeded_23, b_X9_reachNeeded_23, s_X9_reachNeeded_51, b_X9_reachNeeded_51, s_X9_reachNeeded_61, b_X9_reachNeeded_61, s_X9_reachNeeded_85, b_X9_reachNeeded_85, s_X9_reachNeeded_91, b_X9_reachNeeded_91, fl_X9_15, T_20, fl_X9_27, fl_X9_67, fl_X9_89, fl_X9_92, G_X9_reachNeeded_95, sp_X9_across_e, G_X9_reachNeeded_43, sp_J7_fill_53178_e, T_22, hT, hT2, e1, e2, e3]
    refine ⟨h0, by omega, fun c => by omega, fun c => ⟨h0, by omega, by omega, by omega, by omega, by omega, by omega, ?_⟩⟩
    rw [q_blk_up (by omega) (by omega)]
    have e : (fun j => if j = μ (r + 10) k then q_or (n (μ (r + 10) k)) its else n j) = (fun j => if j = μ (r + 10) k then q_or (n j) its else n j) := by
      funext j
      split
      · rename_i e; rw [e]
      · rfl
    rw [e]
    exact ih (k + 1) _ (by omega) (by omega) hk
set_option maxRecDepth 100000 in
theorem rn_b {Rt : Option QV → QM → Prop} {S : Nat → QL → List QV → QM → Prop} (hR : q_Rule cX9_reachNeeded 7 u_X9_reachNeeded fl_X9 ld_X9 G_X9_reachNeeded q_T 4 s_X9_reachNeeded Rt S) {μ : QM} {B t P w h : Int} (hB : 0 ≤ B ∧ B < 10) (hw : c_wk μ P w h (B + 1)) : ∀ (b : Nat) (n : Int → Int) (l4 l5 l6 : Option QV), (b : Int) ≤ B + 1 → (∀ j, m_sub w h (n j)) → Rt none (q_blk μ 22 10 (m_ndr w h (c_kM μ P) (c_mM μ P) (c_oM μ P) b n)) → S 19 [some (.inr (.inr 20)), some (.inl B), some (.inl t), some (.inl ((b : Int) - 1)), l4, l5, l6] [] (q_blk μ 22 10 n) := by
  obtain ⟨hP, h5, htm, hr⟩ := hw
  have hTp := T_plan hP
  have hTr := T_recs hP
  have h0 : 0 ≤ P := by omega
  intro b
  induction b with
  | zero =>
    intro n l4 l5 l6 h1 h2 hk
    refine hR 60 b_X9_reachNeeded_19 19 _ _ _ o_X9_reachNeeded_19 ?_
    simp only [v_opt_n, v_opt_s, v_nil, v_iconst, v_bipush, v_sipush, v_lconst0, v_lconst1, v_ldc, v_ldcw, v_ldc2, v_iload0, v_iload1, v_iload2, v_iload3, v_iload, v_lload0, v_lload1, v_lload2, v_lload3, v_lload, v_aload0, v_aload1, v_aload2, v_aload3, v_aload, v_istore0, v_istore1, v_istore2, v_istore3, v_istore, v_lstore0, v_lstore1, v_lstore2, v_lstore3, v_lstore, v_astore0, v_astore1, v_astore2, v_astore3, v_astore, v_iinc, v_iadd, v_isub, v_imul, v_iand, v_ior, v_ixor, v_ishl, v_ishr, v_iushr, v_ineg, v_idiv, v_irem, v_ladd, v_lsub, v_lmul, v_lcmp, v_i2l, v_l2i, v_i2c, v_dup, v_dup2, v_if_eq, v_if_ne, v_if_lt, v_if_ge, v_if_gt, v_if_le, v_ic_eq, v_ic_ne, v_ic_lt, v_ic_ge, v_ic_gt, v_ic_le, v_goto, v_tsw, v_lsw, v_ireturn, v_areturn, v_return, v_iaload, v_laload, v_baload, v_caload, v_aaload, v_iastore, v_lastore, v_bastore, v_castore, v_alen, v_invvi, v_invst, v_invsp, e_int, e_lng, e_ref, e_lg0, e_lg1, e_lg2, e_lg3, e_lg4, e_lg5, e_lg6, e_lg7, e_lg8, e_lg9, e_lg10, e_lg11, e_lg12, e_lg13, e_clrI, e_clrJ, e_clrP, e_clrN, e_s0, e_s1, e_s2, e_s3, e_s4, e_s5, e_s6, e_s7, e_s8, e_s9, e_s10, e_s11, e_s12, e_s13, e_t0, e_t1, e_t2, e_t3, e_t4, e_t5, e_t6, e_t7, e_t8, e_t9, e_t10, e_t11, e_t12, e_t13, e_fd, e_kk, e_k0, e_k1, e_k2, e_k3, e_k4, e_k5, e_k6, e_k7, e_k8, e_k9, e_sv0, e_sv1, e_sv2, e_sv3, e_svc, e_pf0, e_pf1, e_pf2, e_pf3, e_ar, e_aa, e_al, e_sw1, e_sw2, e_ct0, e_ct1, e_ct2, e_cat0, e_cat1, e_rk0, e_rk1, e_rk2, e_inv0, e_inv1, e_inv2, e_inv3, e_inv4, e_inv5, e_inv6, e_o0, e_o1, e_cl, e_cle, e_cg, e_cge, e_ce, e_cr1, e_cr2, e_r, e_R, e_up, Int.cast_ofNat_Int, u_app, false_and, and_false, e_b0, e_b1, e_bn, e_bl, e_bu, Int.reduceLE, Int.reduceLT, Int.reduceEq, Int.reduceNeg, Int.reduceAdd, Int.reduceSub, Int.reduceMul, Nat.reduceLeDiff, Nat.reduceLT, Nat.reduceAdd, Nat.reduceEqDiff, true_and, and_true, true_or, or_true, false_or, or_false, forall_const, not_true_eq_false, not_false_eq_true, true_implies, false_implies, implies_true, and_self, zero_ne_one, one_ne_zero, eq_self, reduceIte, v_getf, v_putf, s_X9_reachNeeded_0, b_X9_reachNeeded_0, s_X9_reachNeeded_19, b_X9_reachNeeded_19, s_X9_reachNeeded_23, b_X9_reachNeeded_23, s_X9_reachNeeded_51, b_X9_reachNeeded_51, s_X9_reachNeeded_61, b_X9_reachNeeded_61, s_X9_reachNeeded_85, b_X9_reachNeeded_85, s_X9_reachNeeded_91, b_X9_reachNeeded_91, fl_X9_15, T_20, fl_X9_27, fl_X9_67, fl_X9_89, fl_X9_92, G_X9_reachNeeded_95, sp_X9_across_e, G_X9_reachNeeded_43, sp_J7_fill_53178_e, T_22]
    exact hk
  | succ b ih =>
    intro n l4 l5 l6 h1 h2 hk
    have e1 : ((b + 1 : Nat) : Int) - 1 = (b : Int) := by omega
    rw [e1]
    obtain ⟨r1, r2, r3, r4, r5, r6⟩ := hr b (by omega) (by omega)
    have hc : 0 ≤ (b : Int) ∧ (b : Int) < 10 := by omega
    have hrc : q_rc (P + 3 + b) := by omega
    have er : ∀ (n : Int → Int) (j : Int), q_blk μ 22 10 n (P + 3 + b) j = μ (P + 3 + b) j := fun n j => by rw [u_blk, if_neg (by omega)]
    have e20 : ∀ (n : Int → Int) (j : Int), q_blk μ 22 10 n 20 j = μ 20 j := fun n j => by rw [u_blk, if_neg (by omega)]
    have e10 : ∀ (n : Int → Int) (j : Int), q_blk μ 22 10 n 1 j = μ 1 j := fun n j => by rw [u_blk, if_neg (by omega)]
    have e22 : q_blk μ 22 10 n 22 (b : Int) = n b := by rw [u_blk, if_pos (by omega)]
    have hs := h2 b
    refine hR 60 b_X9_reachNeeded_19 19 _ _ _ o_X9_reachNeeded_19 ?_
    simp only [v_opt_n, v_opt_s, v_nil, v_iconst, v_bipush, v_sipush, v_lconst0, v_lconst1, v_ldc, v_ldcw, v_ldc2, v_iload0, v_iload1, v_iload2, v_iload3, v_iload, v_lload0, v_lload1, v_lload2, v_lload3, v_lload, v_aload0, v_aload1, v_aload2, v_aload3, v_aload, v_istore0, v_istore1, v_istore2, v_istore3, v_istore, v_lstore0, v_lstore1, v_lstore2, v_lstore3, v_lstore, v_astore0, v_astore1, v_astore2, v_astore3, v_astore, v_iinc, v_iadd, v_isub, v_imul, v_iand, v_ior, v_ixor, v_ishl, v_ishr, v_iushr, v_ineg, v_idiv, v_irem, v_ladd, v_lsub, v_lmul, v_lcmp, v_i2l, v_l2i, v_i2c, v_dup, v_dup2, v_if_eq, v_if_ne, v_if_lt, v_if_ge, v_if_gt, v_if_le, v_ic_eq, v_ic_ne, v_ic_lt, v_ic_ge, v_ic_gt, v_ic_le, v_goto, v_tsw, v_lsw, v_ireturn, v_areturn, v_return, v_iaload, v_laload, v_baload, v_caload, v_aaload, v_iastore, v_lastore, v_bastore, v_castore, v_alen, v_invvi, v_invst, v_invsp, e_int, e_lng, e_ref, e_lg0, e_lg1, e_lg2, e_lg3, e_lg4, e_lg5, e_lg6, e_lg7, e_lg8, e_lg9, e_lg10, e_lg11, e_lg12, e_lg13, e_clrI, e_clrJ, e_clrP, e_clrN, e_s0, e_s1, e_s2, e_s3, e_s4, e_s5, e_s6, e_s7, e_s8, e_s9, e_s10, e_s11, e_s12, e_s13, e_t0, e_t1, e_t2, e_t3, e_t4, e_t5, e_t6, e_t7, e_t8, e_t9, e_t10, e_t11, e_t12, e_t13, e_fd, e_kk, e_k0, e_k1, e_k2, e_k3, e_k4, e_k5, e_k6, e_k7, e_k8, e_k9, e_sv0, e_sv1, e_sv2, e_sv3, e_svc, e_pf0, e_pf1, e_pf2, e_pf3, e_ar, e_aa, e_al, e_sw1, e_sw2, e_ct0, e_ct1, e_ct2, e_cat0, e_cat1, e_rk0, e_rk1, e_rk2, e_inv0, e_inv1, e_inv2, e_inv3, e_inv4, e_inv5, e_inv6, e_o0, e_o1, e_cl, e_cle, e_cg, e_cge, e_ce, e_cr1, e_cr2, e_r, e_R, e_up, Int.cast_ofNat_Int, u_app, false_and, and_false, e_b0, e_b1, e_bn, e_bl, e_bu, Int.reduceLE, Int.reduceLT, Int.reduceEq, Int.reduceNeg, Int.reduceAdd, Int.reduceSub, Int.reduceMul, Nat.reduceLeDiff, Nat.reduceLT, Nat.reduceAdd, Nat.reduceEqDiff, true_and, and_true, true_or, or_true, false_or, or_false, forall_const, not_true_eq_false, not_false_eq_true, true_implies, false_implies, implies_true, and_self, zero_ne_one, one_ne_zero, eq_self, reduceIte, v_getf, v_putf, s_X9_reachNeeded_0, b_X9_reachNeeded_0, s_X9_reachNeeded_19, b_X9_reachNeeded_19, s_X9_reachNeeded_23, b_X9_reachNeeded_23, s_X9_reachNeeded_51, b_X9_reachNeeded_51, s_X9_reachNeeded_61, b_X9_reachNeeded_61, s_X9_reachNeeded_85, b_X9_reachNeeded_85, s_X9_reachNeeded_91, b_X9_reachNeeded_91, fl_X9_15, T_20, fl_X9_27, fl_X9_67, fl_X9_89, fl_X9_92, G_X9_reachNeeded_95, sp_X9_across_e, G_X9_reachNeeded_43, sp_J7_fill_53178_e, T_22, e20, h5, hTp, hTr, er, e10, e22]
    refine ⟨by omega, fun c => by omega, fun c => ⟨hc.1, hc.2, by omega, by omega, by omega, hc.1, hc.2, hrc, ⟨by have r1 : 0 ≤ μ (P + 3 + b) 2 ∧ μ (P + 3 + b) 2 ≤ 12 := r1; omega, hs.1.1⟩, w, h, htm, ?_⟩⟩
    have e2 : (b : Int) + -1 = (b : Int) - 1 := by omega
    refine rn_k hR hrc hc r2 r3 (μ (P + 3 + b) 1).toNat 0 n (by omega) (by have r2 : 0 ≤ μ (P + 3 + b) 1 ∧ μ (P + 3 + b) 1 ≤ 3 := r2; omega) (fun l4 l5 l6 => ?_)
    rw [e2]
    exact ih _ l4 l5 l6 (by omega) (m_ndx_sub (m_sub_need (h2 b)) _ _ _ h2) hk
set_option maxRecDepth 100000 in
set_option maxHeartbeats 4000000 in
theorem B_X9_reachNeeded : q_Body cX9_reachNeeded 7 u_X9_reachNeeded fl_X9 ld_X9 G_X9_reachNeeded q_T 4 s_X9_reachNeeded sp_X9_reachNeeded := by
  intro S Rt hR ra μ h
  obtain ⟨this, board, tile, rfl, h⟩ := sp_X9_reachNeeded_i h
  refine ⟨by simp [q_sl, q_ct], ?_⟩
  show S 0 [some (.inr (.inr this)), some (.inl board), some (.inl tile), none, none, none, none] [] μ
  obtain ⟨rfl, h1, P, w, h, hw, ht, hk⟩ := h
  refine hR 60 [] 0 _ _ _ rfl ?_
  simp only [v_opt_n, v_opt_s, v_nil, v_iconst, v_bipush, v_sipush, v_lconst0, v_lconst1, v_ldc, v_ldcw, v_ldc2, v_iload0, v_iload1, v_iload2, v_iload3, v_iload, v_lload0, v_lload1, v_lload2, v_lload3, v_lload, v_aload0, v_aload1, v_aload2, v_aload3, v_aload, v_istore0, v_istore1, v_istore2, v_istore3, v_istore, v_lstore0, v_lstore1, v_lstore2, v_lstore3, v_lstore, v_astore0, v_astore1, v_astore2, v_astore3, v_astore, v_iinc, v_iadd, v_isub, v_imul, v_iand, v_ior, v_ixor, v_ishl, v_ishr, v_iushr, v_ineg, v_idiv, v_irem, v_ladd, v_lsub, v_lmul, v_lcmp, v_i2l, v_l2i, v_i2c, v_dup, v_dup2, v_if_eq, v_if_ne, v_if_lt, v_if_ge, v_if_gt, v_if_le, v_ic_eq, v_ic_ne, v_ic_lt, v_ic_ge, v_ic_gt, v_ic_le, v_goto, v_tsw, v_lsw, v_ireturn, v_areturn, v_return, v_iaload, v_laload, v_baload, v_caload, v_aaload, v_iastore, v_lastore, v_bastore, v_castore, v_alen, v_invvi, v_invst, v_invsp, e_int, e_lng, e_ref, e_lg0, e_lg1, e_lg2, e_lg3, e_lg4, e_lg5, e_lg6, e_lg7, e_lg8, e_lg9, e_lg10, e_lg11, e_lg12, e_lg13, e_clrI, e_clrJ, e_clrP, e_clrN, e_s0, e_s1, e_s2, e_s3, e_s4, e_s5, e_s6, e_s7, e_s8, e_s9, e_s10, e_s11, e_s12, e_s13, e_t0, e_t1, e_t2, e_t3, e_t4, e_t5, e_t6, e_t7, e_t8, e_t9, e_t10, e_t11, e_t12, e_t13, e_fd, e_kk, e_k0, e_k1, e_k2, e_k3, e_k4, e_k5, e_k6, e_k7, e_k8, e_k9, e_sv0, e_sv1, e_sv2, e_sv3, e_svc, e_pf0, e_pf1, e_pf2, e_pf3, e_ar, e_aa, e_al, e_sw1, e_sw2, e_ct0, e_ct1, e_ct2, e_cat0, e_cat1, e_rk0, e_rk1, e_rk2, e_inv0, e_inv1, e_inv2, e_inv3, e_inv4, e_inv5, e_inv6, e_o0, e_o1, e_cl, e_cle, e_cg, e_cge, e_ce, e_cr1, e_cr2, e_r, e_R, e_up, Int.cast_ofNat_Int, u_app, false_and, and_false, e_b0, e_b1, e_bn, e_bl, e_bu, Int.reduceLE, Int.reduceLT, Int.reduceEq, Int.reduceNeg, Int.reduceAdd, Int.reduceSub, Int.reduceMul, Nat.reduceLeDiff, Nat.reduceLT, Nat.reduceAdd, Nat.reduceEqDiff, true_and, and_true, true_or, or_true, false_or, or_false, forall_const, not_true_eq_false, not_false_eq_true, true_implies, false_implies, implies_true, and_self, zero_ne_one, one_ne_zero, eq_self, reduceIte, v_getf, v_putf, s_X9_reachNeeded_0, b_X9_reachNeeded_0, s_X9_reachNeeded_19, b_X9_reachNeeded_19, s_X9_reachNeeded_23, b_X9_reachNeeded_23, s_X9_reachNeeded_51, b_X9_reachNeeded_51, s_X9_reachNeeded_61, b_X9_reachNeeded_61, s_X9_reachNeeded_85, b_X9_reachNeeded_85, s_X9_reachNeeded_91, b_X9_reachNeeded_91, fl_X9_15, T_20, fl_X9_27, fl_X9_67, fl_X9_89, fl_X9_92, G_X9_reachNeeded_95, sp_X9_across_e, G_X9_reachNeeded_43, sp_J7_fill_53178_e, T_22]
  refine ⟨10, T_22, by omega, by omega, by omega, ?_⟩
  have e0 : (fun b j => if b = 22 ∧ 0 ≤ j ∧ j < ((10 : Nat) : Int) then 0 else μ b j) = q_blk μ 22 10 (fun _ => 0) := rfl
  rw [e0, q_blk_up h1.1 h1.2]
  have e : (board : Int) = (((board + 1).toNat : Nat) : Int) - 1 := by omega
  have := rn_b hR (t := tile) h1 hw (board + 1).toNat (fun j => if j = board then q_shl 1 tile else 0) none none none (by omega) (fun j => by
    show m_sub _ _ (if j = board then q_shl 1 tile else 0)
    split
    · exact m_sub_one ht
    · exact m_sub_0 _ _) hk
  rw [← e] at this
  exact this
set_option maxRecDepth 100000 in
theorem C_X9_reachNeeded {l : Launch} {ad : Int → Nat} {D : va_G} {cy : Nat → ClassId} {Z : State → Prop} (hZ : q_Zg ad Z) : q_Ct l q_T q_N ad D cy Z yX9_reachNeeded cX9_reachNeeded 7 none rm_X9_reachNeeded sp_X9_reachNeeded := by
  obtain ⟨hf, hg, hld⟩ := q_chkS k_X9_reachNeeded
  refine q_met (rk := 4) q_wokT (by decide) rfl hf hg hld rfl (q_skS L_X9_reachNeeded o_X9_reachNeeded) ?_ ?_ ?_ ?_ B_X9_reachNeeded
  · intro i hi; exact absurd hi List.not_mem_nil
  · intro i hi
    have hi : i = 95 := by simpa [u_X9_reachNeeded] using hi
    rcases hi with rfl
    · exact q_crV hZ.1 (C_X9_across hZ) rv_X9_across cm_X9_across (by decide +kernel) (by decide +kernel) (by decide +kernel) (by decide +kernel) (by decide +kernel) ⟨rfl, rfl⟩ (by decide)
  · intro i hi
    have hi : i = 43 := by simpa [u_X9_reachNeeded] using hi
    rcases hi with rfl
    · exact q_crS hZ.1 (C_J7_fill_53178 hZ) cm_J7_fill_53178 (by decide +kernel) (by decide +kernel) (by decide +kernel) (by decide +kernel) ⟨rfl, rfl⟩ (by decide)
  · intro i hi; exact absurd hi List.not_mem_nil
theorem rv_X9_reachNeeded : q_rcv q_T yX9_reachNeeded.cls sp_X9_reachNeeded := by
  intro ra μ K h
  obtain ⟨this, board, tile, rfl, h⟩ := sp_X9_reachNeeded_i h
  obtain rfl := h.1
  exact ⟨[.inl tile, .inl board], 20, 9, _, _, rfl, T_20, rfl, rfl⟩
theorem cm_X9_reachNeeded : Cond.code yX9_reachNeeded cX9_reachNeeded 7 none ∈ q_tb := by decide +kernel
def sp_X9_sources : QP := fun ra μ K => match ra with
  | [.inl sheet, .inl tile, .inl board, .inr (.inr this)] => this = 20 ∧ (0 ≤ board ∧ board < 10) ∧ q_r sheet ∧ ∃ P w h : Int, c_wk μ P w h (board + 1) ∧ m_tl w h tile ∧ K (some (.inl (m_from w h (c_kM μ P) (c_rM μ P) (c_mM μ P) (c_oM μ P) board tile sheet))) (q_blk μ 22 10 (m_nd w h (c_kM μ P) (c_mM μ P) (c_oM μ P) board tile))
  | _ => False
theorem sp_X9_sources_e (this board tile sheet : Int) (μ : QM) (K : Option QV → QM → Prop) : sp_X9_sources [.inl sheet, .inl tile, .inl board, .inr (.inr this)] μ K = (this = 20 ∧ (0 ≤ board ∧ board < 10) ∧ q_r sheet ∧ ∃ P w h : Int, c_wk μ P w h (board + 1) ∧ m_tl w h tile ∧ K (some (.inl (m_from w h (c_kM μ P) (c_rM μ P) (c_mM μ P) (c_oM μ P) board tile sheet))) (q_blk μ 22 10 (m_nd w h (c_kM μ P) (c_mM μ P) (c_oM μ P) board tile))) := propext Iff.rfl
theorem sp_X9_sources_i {ra : List QV} {μ : QM} {K : Option QV → QM → Prop} (h : sp_X9_sources ra μ K) : ∃ this board tile sheet : Int, ra = [.inl sheet, .inl tile, .inl board, .inr (.inr this)] ∧ (this = 20 ∧ (0 ≤ board ∧ board < 10) ∧ q_r sheet ∧ ∃ P w h : Int, c_wk μ P w h (board + 1) ∧ m_tl w h tile ∧ K (some (.inl (m_from w h (c_kM μ P) (c_rM μ P) (c_mM μ P) (c_oM μ P) board tile sheet))) (q_blk μ 22 10 (m_nd w h (c_kM μ P) (c_mM μ P) (c_oM μ P) board tile))) := by
  unfold sp_X9_sources at h
  split at h
  · exact ⟨_, _, _, _, rfl, h⟩
  · exact h.elim
def rm_X9_sources : Room := { frames := 3, cells := 0, slots := 0, locals := 70 }
def G_X9_sources : Nat → Nat × QP := fun i => match i with
  | 60 => (3, sp_X9_reachNeeded)
  | _ => (0, fun _ _ _ => False)
theorem G_X9_sources_60 : G_X9_sources 60 = (3, sp_X9_reachNeeded) := id rfl
theorem q_or_0 {a : Int} (h : q_r a) : q_or a 0 = a := bt_ext (bt_r_or _ _) h (fun t _ => by rw [bt_or, bt_0, Bool.or_false])
theorem m_frn_r (kd rn nd : Int → Int) (s : Int) : ∀ n, q_r (m_frn kd rn nd s n)
  | 0 => by
    show q_r 0
    decide
  | n + 1 => bt_r_or _ _
set_option maxRecDepth 100000 in
theorem so_b {Rt : Option QV → QM → Prop} {S : Nat → QL → List QV → QM → Prop} (hR : q_Rule cX9_sources 7 u_X9_sources fl_X9 ld_X9 G_X9_sources q_T 0 s_X9_sources Rt S) {μ : QM} {B t s P w h : Int} {nd : Int → Int} (hB : 0 ≤ B ∧ B < 10) (hs : q_r s) (hw : c_wk μ P w h (B + 1)) (hk : Rt (some (.inl (m_frn (c_kM μ P) (c_rM μ P) nd s (B + 1).toNat))) (q_blk μ 22 10 nd)) : ∀ (d b : Nat) (l6 : Option QV), b + d = (B + 1).toNat → S 12 [some (.inr (.inr 20)), some (.inl B), some (.inl t), some (.inl s), some (.inl (m_frn (c_kM μ P) (c_rM μ P) nd s b)), some (.inl (b : Int)), l6] [] (q_blk μ 22 10 nd) := by
  obtain ⟨hP, h5, htm, hr⟩ := hw
  have hTp := T_plan hP
  have hTr := T_recs hP
  have h0 : 0 ≤ P := by omega
  intro d
  induction d with
  | zero =>
    intro b l6 h1
    obtain rfl : b = (B + 1).toNat := by omega
    refine hR 60 b_X9_sources_12 12 _ _ _ o_X9_sources_12 ?_
    simp only [v_opt_n, v_opt_s, v_nil, v_iconst, v_bipush, v_sipush, v_lconst0, v_lconst1, v_ldc, v_ldcw, v_ldc2, v_iload0, v_iload1, v_iload2, v_iload3, v_iload, v_lload0, v_lload1, v_lload2, v_lload3, v_lload, v_aload0, v_aload1, v_aload2, v_aload3, v_aload, v_istore0, v_istore1, v_istore2, v_istore3, v_istore, v_lstore0, v_lstore1, v_lstore2, v_lstore3, v_lstore, v_astore0, v_astore1, v_astore2, v_astore3, v_astore, v_iinc, v_iadd, v_isub, v_imul, v_iand, v_ior, v_ixor, v_ishl, v_ishr, v_iushr, v_ineg, v_idiv, v_irem, v_ladd, v_lsub, v_lmul, v_lcmp, v_i2l, v_l2i, v_i2c, v_dup, v_dup2, v_if_eq, v_if_ne, v_if_lt, v_if_ge, v_if_gt, v_if_le, v_ic_eq, v_ic_ne, v_ic_lt, v_ic_ge, v_ic_gt, v_ic_le, v_goto, v_tsw, v_lsw, v_ireturn, v_areturn, v_return, v_iaload, v_laload, v_baload, v_caload, v_aaload, v_iastore, v_lastore, v_bastore, v_castore, v_alen, v_invvi, v_invst, v_invsp, e_int, e_lng, e_ref, e_lg0, e_lg1, e_lg2, e_lg3, e_lg4, e_lg5, e_lg6, e_lg7, e_lg8, e_lg9, e_lg10, e_lg11, e_lg12, e_lg13, e_clrI, e_clrJ, e_clrP, e_clrN, e_s0, e_s1, e_s2, e_s3, e_s4, e_s5, e_s6, e_s7, e_s8, e_s9, e_s10, e_s11, e_s12, e_s13, e_t0, e_t1, e_t2, e_t3, e_t4, e_t5, e_t6, e_t7, e_t8, e_t9, e_t10, e_t11, e_t12, e_t13, e_fd, e_kk, e_k0, e_k1, e_k2, e_k3, e_k4, e_k5, e_k6, e_k7, e_k8, e_k9, e_sv0, e_sv1, e_sv2, e_sv3, e_svc, e_pf0, e_pf1, e_pf2, e_pf3, e_ar, e_aa, e_al, e_sw1, e_sw2, e_ct0, e_ct1, e_ct2, e_cat0, e_cat1, e_rk0, e_rk1, e_rk2, e_inv0, e_inv1, e_inv2, e_inv3, e_inv4, e_inv5, e_inv6, e_o0, e_o1, e_cl, e_cle, e_cg, e_cge, e_ce, e_cr1, e_cr2, e_r, e_R, e_up, Int.cast_ofNat_Int, u_app, false_and, and_false, e_b0, e_b1, e_bn, e_bl, e_bu, Int.reduceLE, Int.reduceLT, Int.reduceEq, Int.reduceNeg, Int.reduceAdd, Int.reduceSub, Int.reduceMul, Nat.reduceLeDiff, Nat.reduceLT, Nat.reduceAdd, Nat.reduceEqDiff, true_and, and_true, true_or, or_true, false_or, or_false, forall_const, not_true_eq_false, not_false_eq_true, true_implies, false_implies, implies_true, and_self, zero_ne_one, one_ne_zero, eq_self, reduceIte, v_getf, v_putf, s_X9_sources_0, b_X9_sources_0, s_X9_sources_12, b_X9_sources_12, s_X9_sources_18, b_X9_sources_18, s_X9_sources_38, b_X9_sources_38, s_X9_sources_47, b_X9_sources_47, s_X9_sources_59, b_X9_sources_59, s_X9_sources_65, b_X9_sources_65, fl_X9_27, T_20, fl_X9_67, fl_X9_73, fl_X9_79, fl_X9_15, G_X9_sources_60, sp_X9_reachNeeded_e, T_22]
    exact ⟨by omega, fun _ => hk, fun c => by omega⟩
  | succ d ih =>
    intro b l6 h1
    obtain ⟨r1, r2, r3, r4, r5, r6⟩ := hr b (by omega) (by omega)
    have r1 : 0 ≤ μ (P + 3 + b) 2 ∧ μ (P + 3 + b) 2 ≤ 12 := r1
    have hc : 0 ≤ (b : Int) ∧ (b : Int) < 10 := by omega
    have hrc : q_rc (P + 3 + b) := by omega
    have hTb := T_rec hrc
    have er : ∀ (n : Int → Int) (j : Int), q_blk μ 22 10 n (P + 3 + b) j = μ (P + 3 + b) j := fun n j => by rw [u_blk, if_neg (by omega)]
    have e20 : ∀ (n : Int → Int) (j : Int), q_blk μ 22 10 n 20 j = μ 20 j := fun n j => by rw [u_blk, if_neg (by omega)]
    have e22 : q_blk μ 22 10 nd 22 (b : Int) = nd b := by rw [u_blk, if_pos (by omega)]
    have e1 : ((b + 1 : Nat) : Int) = (b : Int) + 1 := by omega
    have e2 : m_frn (c_kM μ P) (c_rM μ P) nd s (b + 1) = q_or (m_frn (c_kM μ P) (c_rM μ P) nd s b) (if μ (P + 3 + b) 2 = 0 ∧ μ (P + 3 + b) 4 = s then nd (b : Int) else 0) := rfl
    have ih := fun l6 => ih (b + 1) l6 (by omega)
    rw [e1, e2] at ih
    refine hR 60 b_X9_sources_12 12 _ _ _ o_X9_sources_12 ?_
    simp only [v_opt_n, v_opt_s, v_nil, v_iconst, v_bipush, v_sipush, v_lconst0, v_lconst1, v_ldc, v_ldcw, v_ldc2, v_iload0, v_iload1, v_iload2, v_iload3, v_iload, v_lload0, v_lload1, v_lload2, v_lload3, v_lload, v_aload0, v_aload1, v_aload2, v_aload3, v_aload, v_istore0, v_istore1, v_istore2, v_istore3, v_istore, v_lstore0, v_lstore1, v_lstore2, v_lstore3, v_lstore, v_astore0, v_astore1, v_astore2, v_astore3, v_astore, v_iinc, v_iadd, v_isub, v_imul, v_iand, v_ior, v_ixor, v_ishl, v_ishr, v_iushr, v_ineg, v_idiv, v_irem, v_ladd, v_lsub, v_lmul, v_lcmp, v_i2l, v_l2i, v_i2c, v_dup, v_dup2, v_if_eq, v_if_ne, v_if_lt, v_if_ge, v_if_gt, v_if_le, v_ic_eq, v_ic_ne, v_ic_lt, v_ic_ge, v_ic_gt, v_ic_le, v_goto, v_tsw, v_lsw, v_ireturn, v_areturn, v_return, v_iaload, v_laload, v_baload, v_caload, v_aaload, v_iastore, v_lastore, v_bastore, v_castore, v_alen, v_invvi, v_invst, v_invsp, e_int, e_lng, e_ref, e_lg0, e_lg1, e_lg2, e_lg3, e_lg4, e_lg5, e_lg6, e_lg7, e_lg8, e_lg9, e_lg10, e_lg11, e_lg12, e_lg13, e_clrI, e_clrJ, e_clrP, e_clrN, e_s0, e_s1, e_s2, e_s3, e_s4, e_s5, e_s6, e_s7, e_s8, e_s9, e_s10, e_s11, e_s12, e_s13, e_t0, e_t1, e_t2, e_t3, e_t4, e_t5, e_t6, e_t7, e_t8, e_t9, e_t10, e_t11, e_t12, e_t13, e_fd, e_kk, e_k0, e_k1, e_k2, e_k3, e_k4, e_k5, e_k6, e_k7, e_k8, e_k9, e_sv0, e_sv1, e_sv2, e_sv3, e_svc, e_pf0, e_pf1, e_pf2, e_pf3, e_ar, e_aa, e_al, e_sw1, e_sw2, e_ct0, e_ct1, e_ct2, e_cat0, e_cat1, e_rk0, e_rk1, e_rk2, e_inv0, e_inv1, e_inv2, e_inv3, e_inv4, e_inv5, e_inv6, e_o0, e_o1, e_cl, e_cle, e_cg, e_cge, e_ce, e_cr1, e_cr2, e_r, e_R, e_up, Int.cast_ofNat_Int, u_app, false_and, and_false, e_b0, e_b1, e_bn, e_bl, e_bu, Int.reduceLE, Int.reduceLT, Int.reduceEq, Int.reduceNeg, Int.reduceAdd, Int.reduceSub, Int.reduceMul, Nat.reduceLeDiff, Nat.reduceLT, Nat.reduceAdd, Nat.reduceEqDiff, true_and, and_true, true_or, or_true, false_or, or_false, forall_const, not_true_eq_false, not_false_eq_true, true_implies, false_implies, implies_true, and_self, zero_ne_one, one_ne_zero, eq_self, reduceIte, v_getf, v_putf, s_X9_sources_0, b_X9_sources_0, s_X9_sources_12, b_X9_sources_12, s_X9_sources_18, b_X9_sources_18, s_X9_sources_38, b_X9_sources_38, s_X9_sources_47, b_X9_sources_47, s_X9_sources_59, b_X9_sources_59, s_X9_sources_65, b_X9_sources_65, fl_X9_27, T_20, fl_X9_67, fl_X9_73, fl_X9_79, fl_X9_15, G_X9_sources_60, sp_X9_reachNeeded_e, T_22, e20, h5, hTp, hTr, hTb, er, e22]
    have hq := q_or_0 (m_frn_r (c_kM μ P) (c_rM μ P) nd s b)
    have r6 : q_r (μ (P + 3 + b) 4) := r6
    refine ⟨by omega, fun c => by omega, fun c => ⟨hc.1, hc.2, by omega, by omega, by omega, by omega, fun c1 => ?_, fun c1 => ⟨by omega, ⟨r6, hs⟩, fun c2 => ?_, fun c2 => ⟨hc.1, hc.2, ?_⟩⟩⟩⟩
    · rw [if_neg (fun q => c1 q.1), hq] at ih
      exact ih _
    · rw [if_neg (fun q => c2 q.2), hq] at ih
      exact ih _
    · rw [if_pos ⟨c1, c2⟩] at ih
      exact ih _
set_option maxRecDepth 100000 in
set_option maxHeartbeats 4000000 in
theorem B_X9_sources : q_Body cX9_sources 7 u_X9_sources fl_X9 ld_X9 G_X9_sources q_T 0 s_X9_sources sp_X9_sources := by
  intro S Rt hR ra μ h
  obtain ⟨this, board, tile, sheet, rfl, h⟩ := sp_X9_sources_i h
  refine ⟨by simp [q_sl, q_ct], ?_⟩
  show S 0 [some (.inr (.inr this)), some (.inl board), some (.inl tile), some (.inl sheet), none, none, none] [] μ
  obtain ⟨rfl, h1, h2, P, w, h, hw, ht, hk⟩ := h
  refine hR 60 [] 0 _ _ _ rfl ?_
  simp only [v_opt_n, v_opt_s, v_nil, v_iconst, v_bipush, v_sipush, v_lconst0, v_lconst1, v_ldc, v_ldcw, v_ldc2, v_iload0, v_iload1, v_iload2, v_iload3, v_iload, v_lload0, v_lload1, v_lload2, v_lload3, v_lload, v_aload0, v_aload1, v_aload2, v_aload3, v_aload, v_istore0, v_istore1, v_istore2, v_istore3, v_istore, v_lstore0, v_lstore1, v_lstore2, v_lstore3, v_lstore, v_astore0, v_astore1, v_astore2, v_astore3, v_astore, v_iinc, v_iadd, v_isub, v_imul, v_iand, v_ior, v_ixor, v_ishl, v_ishr, v_iushr, v_ineg, v_idiv, v_irem, v_ladd, v_lsub, v_lmul, v_lcmp, v_i2l, v_l2i, v_i2c, v_dup, v_dup2, v_if_eq, v_if_ne, v_if_lt, v_if_ge, v_if_gt, v_if_le, v_ic_eq, v_ic_ne, v_ic_lt, v_ic_ge, v_ic_gt, v_ic_le, v_goto, v_tsw, v_lsw, v_ireturn, v_areturn, v_return, v_iaload, v_laload, v_baload, v_caload, v_aaload, v_iastore, v_lastore, v_bastore, v_castore, v_alen, v_invvi, v_invst, v_invsp, e_int, e_lng, e_ref, e_lg0, e_lg1, e_lg2, e_lg3, e_lg4, e_lg5, e_lg6, e_lg7, e_lg8, e_lg9, e_lg10, e_lg11, e_lg12, e_lg13, e_clrI, e_clrJ, e_clrP, e_clrN, e_s0, e_s1, e_s2, e_s3, e_s4, e_s5, e_s6, e_s7, e_s8, e_s9, e_s10, e_s11, e_s12, e_s13, e_t0, e_t1, e_t2, e_t3, e_t4, e_t5, e_t6, e_t7, e_t8, e_t9, e_t10, e_t11, e_t12, e_t13, e_fd, e_kk, e_k0, e_k1, e_k2, e_k3, e_k4, e_k5, e_k6, e_k7, e_k8, e_k9, e_sv0, e_sv1, e_sv2, e_sv3, e_svc, e_pf0, e_pf1, e_pf2, e_pf3, e_ar, e_aa, e_al, e_sw1, e_sw2, e_ct0, e_ct1, e_ct2, e_cat0, e_cat1, e_rk0, e_rk1, e_rk2, e_inv0, e_inv1, e_inv2, e_inv3, e_inv4, e_inv5, e_inv6, e_o0, e_o1, e_cl, e_cle, e_cg, e_cge, e_ce, e_cr1, e_cr2, e_r, e_R, e_up, Int.cast_ofNat_Int, u_app, false_and, and_false, e_b0, e_b1, e_bn, e_bl, e_bu, Int.reduceLE, Int.reduceLT, Int.reduceEq, Int.reduceNeg, Int.reduceAdd, Int.reduceSub, Int.reduceMul, Nat.reduceLeDiff, Nat.reduceLT, Nat.reduceAdd, Nat.reduceEqDiff, true_and, and_true, true_or, or_true, false_or, or_false, forall_const, not_true_eq_false, not_false_eq_true, true_implies, false_implies, implies_true, and_self, zero_ne_one, one_ne_zero, eq_self, reduceIte, v_getf, v_putf, s_X9_sources_0, b_X9_sources_0, s_X9_sources_12, b_X9_sources_12, s_X9_sources_18, b_X9_sources_18, s_X9_sources_38, b_X9_sources_38, s_X9_sources_47, b_X9_sources_47, s_X9_sources_59, b_X9_sources_59, s_X9_sources_65, b_X9_sources_65, fl_X9_27, T_20, fl_X9_67, fl_X9_73, fl_X9_79, fl_X9_15, G_X9_sources_60, sp_X9_reachNeeded_e]
  exact ⟨h1, P, w, h, hw, ht, so_b hR h1 h2 hw hk (board + 1).toNat 0 none (by omega)⟩
set_option maxRecDepth 100000 in
theorem C_X9_sources {l : Launch} {ad : Int → Nat} {D : va_G} {cy : Nat → ClassId} {Z : State → Prop} (hZ : q_Zg ad Z) : q_Ct l q_T q_N ad D cy Z yX9_sources cX9_sources 7 (some .int) rm_X9_sources sp_X9_sources := by
  obtain ⟨hf, hg, hld⟩ := q_chkS k_X9_sources
  refine q_met (rk := 0) q_wokT (by decide) rfl hf hg hld rfl (q_skS L_X9_sources o_X9_sources) ?_ ?_ ?_ ?_ B_X9_sources
  · intro i hi; exact absurd hi List.not_mem_nil
  · intro i hi
    have hi : i = 60 := by simpa [u_X9_sources] using hi
    rcases hi with rfl
    · exact q_crV hZ.1 (C_X9_reachNeeded hZ) rv_X9_reachNeeded cm_X9_reachNeeded (by decide +kernel) (by decide +kernel) (by decide +kernel) (by decide +kernel) (by decide +kernel) ⟨rfl, rfl⟩ (by decide)
  · intro i hi; exact absurd hi List.not_mem_nil
  · intro i hi; exact absurd hi List.not_mem_nil
theorem rv_X9_sources : q_rcv q_T yX9_sources.cls sp_X9_sources := by
  intro ra μ K h
  obtain ⟨this, board, tile, sheet, rfl, h⟩ := sp_X9_sources_i h
  obtain rfl := h.1
  exact ⟨[.inl sheet, .inl tile, .inl board], 20, 9, _, _, rfl, T_20, rfl, rfl⟩
theorem cm_X9_sources : Cond.code yX9_sources cX9_sources 7 (some .int) ∈ q_tb := by decide +kernel
/-! what comes from a tile of a sheet -/
def c_oN (n : Int → Int) (of : Int → Int) : Nat → Int
  | 0 => 0
  | k + 1 => q_or (c_oN n of k) (n (of k))
theorem c_oN_mk {n of : Int → Int} (hn : ∀ j : Int, q_mk (n j)) : ∀ k, q_mk (c_oN n of k)
  | 0 => q_mk_0
  | k + 1 => q_mk_or (c_oN_mk hn k) (hn _)
/-- the tiles of board b that come from those of a sheet -/
def c_lo (w h : Int) (kd rn mn : Int → Int) (of : Int → Int → Int) (sheet tiles : Int) (n : Int → Int) (b : Int) : Int := if kd b = 0 then (if rn b = sheet then tiles else 0) else q_need w h (kd b) (c_oN n (of b) (mn b).toNat)
def sp_X9_tilesFrom : QP := fun ra μ K => match ra with
  | [.inl tiles, .inl sheet, .inr (.inr recipe), .inr (.inr this)] => this = 20 ∧ q_rc recipe ∧ (0 ≤ μ recipe 2 ∧ μ recipe 2 ≤ 12) ∧ (0 ≤ μ recipe 1 ∧ μ recipe 1 ≤ 3) ∧ (q_r (μ recipe 4) ∧ q_r sheet) ∧ (∀ k : Int, 0 ≤ k → k < μ recipe 1 → 0 ≤ μ (recipe + 10) k ∧ μ (recipe + 10) k < 10) ∧ (∀ j : Int, 0 ≤ j → j < 10 → q_mk (μ 22 j)) ∧ ∃ w h : Int, μ 1 2 = q_tm w h ∧ K (some (.inl (if μ recipe 2 = 0 then (if μ recipe 4 = sheet then tiles else 0) else q_need w h (μ recipe 2) (c_oN (μ 22) (μ (recipe + 10)) (μ recipe 1).toNat)))) μ
  | _ => False
theorem sp_X9_tilesFrom_e (this recipe sheet tiles : Int) (μ : QM) (K : Option QV → QM → Prop) : sp_X9_tilesFrom [.inl tiles, .inl sheet, .inr (.inr recipe), .inr (.inr this)] μ K = (this = 20 ∧ q_rc recipe ∧ (0 ≤ μ recipe 2 ∧ μ recipe 2 ≤ 12) ∧ (0 ≤ μ recipe 1 ∧ μ recipe 1 ≤ 3) ∧ (q_r (μ recipe 4) ∧ q_r sheet) ∧ (∀ k : Int, 0 ≤ k → k < μ recipe 1 → 0 ≤ μ (recipe + 10) k ∧ μ (recipe + 10) k < 10) ∧ (∀ j : Int, 0 ≤ j → j < 10 → q_mk (μ 22 j)) ∧ ∃ w h : Int, μ 1 2 = q_tm w h ∧ K (some (.inl (if μ recipe 2 = 0 then (if μ recipe 4 = sheet then tiles else 0) else q_need w h (μ recipe 2) (c_oN (μ 22) (μ (recipe + 10)) (μ recipe 1).toNat)))) μ) := propext Iff.rfl
theorem sp_X9_tilesFrom_i {ra : List QV} {μ : QM} {K : Option QV → QM → Prop} (h : sp_X9_tilesFrom ra μ K) : ∃ this recipe sheet tiles : Int, ra = [.inl tiles, .inl sheet, .inr (.inr recipe), .inr (.inr this)] ∧ (this = 20 ∧ q_rc recipe ∧ (0 ≤ μ recipe 2 ∧ μ recipe 2 ≤ 12) ∧ (0 ≤ μ recipe 1 ∧ μ recipe 1 ≤ 3) ∧ (q_r (μ recipe 4) ∧ q_r sheet) ∧ (∀ k : Int, 0 ≤ k → k < μ recipe 1 → 0 ≤ μ (recipe + 10) k ∧ μ (recipe + 10) k < 10) ∧ (∀ j : Int, 0 ≤ j → j < 10 → q_mk (μ 22 j)) ∧ ∃ w h : Int, μ 1 2 = q_tm w h ∧ K (some (.inl (if μ recipe 2 = 0 then (if μ recipe 4 = sheet then tiles else 0) else q_need w h (μ recipe 2) (c_oN (μ 22) (μ (recipe + 10)) (μ recipe 1).toNat)))) μ) := by
  unfold sp_X9_tilesFrom at h
  split at h
  · exact ⟨_, _, _, _, rfl, h⟩
  · exact h.elim
def rm_X9_tilesFrom : Room := { frames := 2, cells := 0, slots := 0, locals := 44 }
def G_X9_tilesFrom : Nat → Nat × QP := fun i => match i with
  | 95 => (3, sp_X9_across)
  | _ => (0, fun _ _ _ => False)
theorem G_X9_tilesFrom_95 : G_X9_tilesFrom 95 = (3, sp_X9_across) := id rfl
theorem tf_27 {Rt : Option QV → QM → Prop} {S : Nat → QL → List QV → QM → Prop} (hR : q_Rule cX9_tilesFrom 6 u_X9_tilesFrom fl_X9 ld_X9 G_X9_tilesFrom q_T 0 s_X9_tilesFrom Rt S) {μ : QM} {r s t w h : Int} (hr : q_rc r) (h2 : 0 ≤ μ r 2 ∧ μ r 2 ≤ 12) (h1 : 0 ≤ μ r 1 ∧ μ r 1 ≤ 3) (ho : ∀ k : Int, 0 ≤ k → k < μ r 1 → 0 ≤ μ (r + 10) k ∧ μ (r + 10) k < 10) (htm : μ 1 2 = q_tm w h) (hk : Rt (some (.inl (q_need w h (μ r 2) (c_oN (μ 22) (μ (r + 10)) (μ r 1).toNat)))) μ) : ∀ (d k : Nat), k + d = (μ r 1).toNat → S 27 [some (.inr (.inr 20)), some (.inr (.inr r)), some (.inl s), some (.inl t), some (.inl (c_oN (μ 22) (μ (r + 10)) k)), some (.inl k)] [] μ := by
  intro d
  have hT := T_rec hr
  have hT2 := T_nmd hr
  have h0 : 0 ≤ r := by omega
  have hq : ∀ k, q_r (c_oN (μ 22) (μ (r + 10)) k) := fun k => by
    cases k with
    | zero =>
      show q_r 0
      decide
    | succ k => exact bt_r_or _ _
  induction d with
  | zero =>
    intro k e
    obtain rfl : k = (μ r 1).toNat := by omega
    refine hR 60 b_X9_tilesFrom_27 27 _ _ _ o_X9_tilesFrom_27 ?_
    simp only [v_opt_n, v_opt_s, v_nil, v_iconst, v_bipush, v_sipush, v_lconst0, v_lconst1, v_ldc, v_ldcw, v_ldc2, v_iload0, v_iload1, v_iload2, v_iload3, v_iload, v_lload0, v_lload1, v_lload2, v_lload3, v_lload, v_aload0, v_aload1, v_aload2, v_aload3, v_aload, v_istore0, v_istore1, v_istore2, v_istore3, v_istore, v_lstore0, v_lstore1, v_lstore2, v_lstore3, v_lstore, v_astore0, v_astore1, v_astore2, v_astore3, v_astore, v_iinc, v_iadd, v_isub, v_imul, v_iand, v_ior, v_ixor, v_ishl, v_ishr, v_iushr, v_ineg, v_idiv, v_irem, v_ladd, v_lsub, v_lmul, v_lcmp, v_i2l, v_l2i, v_i2c, v_dup, v_dup2, v_if_eq, v_if_ne, v_if_lt, v_if_ge, v_if_gt, v_if_le, v_ic_eq, v_ic_ne, v_ic_lt, v_ic_ge, v_ic_gt, v_ic_le, v_goto, v_tsw, v_lsw, v_ireturn, v_areturn, v_return, v_iaload, v_laload, v_baload, v_caload, v_aaload, v_iastore, v_lastore, v_bastore, v_castore, v_alen, v_invvi, v_invst, v_invsp, e_int, e_lng, e_ref, e_lg0, e_lg1, e_lg2, e_lg3, e_lg4, e_lg5, e_lg6, e_lg7, e_lg8, e_lg9, e_lg10, e_lg11, e_lg12, e_lg13, e_clrI, e_clrJ, e_clrP, e_clrN, e_s0, e_s1, e_s2, e_s3, e_s4, e_s5, e_s6, e_s7, e_s8, e_s9, e_s10, e_s11, e_s12, e_s13, e_t0, e_t1, e_t2, e_t3, e_t4, e_t5, e_t6, e_t7, e_t8, e_t9, e_t10, e_t11, e_t12, e_t13, e_fd, e_kk, e_k0, e_k1, e_k2, e_k3, e_k4, e_k5, e_k6, e_k7, e_k8, e_k9, e_sv0, e_sv1, e_sv2, e_sv3, e_svc, e_pf0, e_pf1, e_pf2, e_pf3, e_ar, e_aa, e_al, e_sw1, e_sw2, e_ct0, e_ct1, e_ct2, e_cat0, e_cat1, e_rk0, e_rk1, e_rk2, e_inv0, e_inv1, e_inv2, e_inv3, e_inv4, e_inv5, e_inv6, e_o0, e_o1, e_cl, e_cle, e_cg, e_cge, e_ce, e_cr1, e_cr2, e_r, e_R, e_up, Int.cast_ofNat_Int, u_app, false_and, and_false, e_b0, e_b1, e_bn, e_bl, e_bu, Int.reduceLE, Int.reduceLT, Int.reduceEq, Int.reduceNeg, Int.reduceAdd, Int.reduceSub, Int.reduceMul, Nat.reduceLeDiff, Nat.reduceLT, Nat.reduceAdd, Nat.reduceEqDiff, true_and, and_true, true_or, or_true, false_or, or_false, forall_const, not_true_eq_false, not_false_eq_true, true_implies, false_implies, implies_true, and_self, zero_ne_one, one_ne_zero, eq_self, reduceIte, v_getf, v_putf, s_X9_tilesFrom_0, b_X9_tilesFrom_0, s_X9_tilesFrom_7, b_X9_tilesFrom_7, s_X9_tilesFrom_15, b_X9_tilesFrom_15, s_X9_tilesFrom_19, b_X9_tilesFrom_19, s_X9_tilesFrom_20, b_X9_tilesFrom_20, s_X9_tilesFrom_21, b_X9_tilesFrom_21, s_X9_tilesFrom_27, b_X9_tilesFrom_27, s_X9_tilesFrom_36, b_X9_tilesFrom_36, s_X9_tilesFrom_59, b_X9_tilesFrom_59, fl_X9_73, fl_X9_79, fl_X9_89, fl_X9_15, T_20, fl_X9_92, G_X9_tilesFrom_95, sp_X9_across_e, T_22, hT, hT2]
    exact ⟨h0, by omega, fun _ => ⟨h0, hr, ⟨by omega, hq _⟩, w, h, htm, hk⟩, fun c => by omega⟩
  | succ d ih =>
    intro k e
    have h3 := ho k (by omega) (by omega)
    have ih := ih (k + 1) (by omega)
    refine hR 60 b_X9_tilesFrom_27 27 _ _ _ o_X9_tilesFrom_27 ?_
    simp only [v_opt_n, v_opt_s, v_nil, v_iconst, v_bipush, v_sipush, v_lconst0, v_lconst1, v_ldc, v_ldcw, v_ldc2, v_iload0, v_iload1, v_iload2, v_iload3, v_iload, v_lload0, v_lload1, v_lload2, v_lload3, v_lload, v_aload0, v_aload1, v_aload2, v_aload3, v_aload, v_istore0, v_istore1, v_istore2, v_istore3, v_istore, v_lstore0, v_lstore1, v_lstore2, v_lstore3, v_lstore, v_astore0, v_astore1, v_astore2, v_astore3, v_astore, v_iinc, v_iadd, v_isub, v_imul, v_iand, v_ior, v_ixor, v_ishl, v_ishr, v_iushr, v_ineg, v_idiv, v_irem, v_ladd, v_lsub, v_lmul, v_lcmp, v_i2l, v_l2i, v_i2c, v_dup, v_dup2, v_if_eq, v_if_ne, v_if_lt, v_if_ge, v_if_gt, v_if_le, v_ic_eq, v_ic_ne, v_ic_lt, v_ic_ge, v_ic_gt, v_ic_le, v_goto, v_tsw, v_lsw, v_ireturn, v_areturn, v_return, v_iaload, v_laload, v_baload, v_caload, v_aaload, v_iastore, v_lastore, v_bastore, v_castore, v_alen, v_invvi, v_invst, v_invsp, e_int, e_lng, e_ref, e_lg0, e_lg1, e_lg2, e_lg3, e_lg4, e_lg5, e_lg6, e_lg7, e_lg8, e_lg9, e_lg10, e_lg11, e_lg12, e_lg13, e_clrI, e_clrJ, e_clrP, e_clrN, e_s0, e_s1, e_s2, e_s3, e_s4, e_s5, e_s6, e_s7, e_s8, e_s9, e_s10, e_s11, e_s12, e_s13, e_t0, e_t1, e_t2, e_t3, e_t4, e_t5, e_t6, e_t7, e_t8, e_t9, e_t10, e_t11, e_t12, e_t13, e_fd, e_kk, e_k0, e_k1, e_k2, e_k3, e_k4, e_k5, e_k6, e_k7, e_k8, e_k9, e_sv0, e_sv1, e_sv2, e_sv3, e_svc, e_pf0, e_pf1, e_pf2, e_pf3, e_ar, e_aa, e_al, e_sw1, e_sw2, e_ct0, e_ct1, e_ct2, e_cat0, e_cat1, e_rk0, e_rk1, e_rk2, e_inv0, e_inv1, e_inv2, e_inv3, e_inv4, e_inv5, e_inv6, e_o0, e_o1, e_cl, e_cle, e_cg, e_cge, e_ce, e_cr1, e_cr2, e_r, e_R, e_up, Int.cast_ofNat_Int, u_app, false_and, and_false, e_b0, e_b1, e_bn, e_bl, e_bu, Int.reduceLE, Int.reduceLT, Int.reduceEq, Int.reduceNeg, Int.reduceAdd, Int.reduceSub, Int.reduceMul, Nat.reduceLeDiff, Nat.reduceLT, Nat.reduceAdd, Nat.reduceEqDiff, true_and, and_true, true_or, or_true, false_or, or_false, forall_const, not_true_eq_false, not_false_eq_true, true_implies, false_implies, implies_true, and_self, zero_ne_one, one_ne_zero, eq_self, reduceIte, v_getf, v_putf, s_X9_tilesFrom_0, b_X9_tilesFrom_0, s_X9_tilesFrom_7, b_X9_tilesFrom_7, s_X9_tilesFrom_15, b_X9_tilesFrom_15, s_X9_tilesFrom_19, b_X9_tilesFrom_19, s_X9_tilesFrom_20, b_X9_tilesFrom_20, s_X9_tilesFrom_21, b_X9_tilesFrom_21, s_X9_tilesFrom_27, b_X9_tilesFrom_27, s_X9_tilesFrom_36, b_X9_tilesFrom_36, s_X9_tilesFrom_59, b_X9_tilesFrom_59, fl_X9_73, fl_X9_79, fl_X9_89, fl_X9_15, T_20, fl_X9_92, G_X9_tilesFrom_95, sp_X9_across_e, T_22, hT, hT2]
    refine ⟨h0, by omega, fun c => by omega, fun c => ⟨h0, by omega, by omega, by omega, by omega, ?_⟩⟩
    rw [Int.natCast_add] at ih
    exact ih
set_option maxRecDepth 100000 in
set_option maxHeartbeats 4000000 in
theorem B_X9_tilesFrom : q_Body cX9_tilesFrom 6 u_X9_tilesFrom fl_X9 ld_X9 G_X9_tilesFrom q_T 0 s_X9_tilesFrom sp_X9_tilesFrom := by
  intro S Rt hR ra μ h
  obtain ⟨this, recipe, sheet, tiles, rfl, h⟩ := sp_X9_tilesFrom_i h
  refine ⟨by simp [q_sl, q_ct], ?_⟩
  show S 0 [some (.inr (.inr this)), some (.inr (.inr recipe)), some (.inl sheet), some (.inl tiles), none, none] [] μ
  obtain ⟨rfl, hr, h2, h1, h4, ho, hm, w, h, htm, hk⟩ := h
  have hT := T_rec hr
  have h0 : 0 ≤ recipe := by omega
  refine hR 60 [] 0 _ _ _ rfl ?_
  simp only [v_opt_n, v_opt_s, v_nil, v_iconst, v_bipush, v_sipush, v_lconst0, v_lconst1, v_ldc, v_ldcw, v_ldc2, v_iload0, v_iload1, v_iload2, v_iload3, v_iload, v_lload0, v_lload1, v_lload2, v_lload3, v_lload, v_aload0, v_aload1, v_aload2, v_aload3, v_aload, v_istore0, v_istore1, v_istore2, v_istore3, v_istore, v_lstore0, v_lstore1, v_lstore2, v_lstore3, v_lstore, v_astore0, v_astore1, v_astore2, v_astore3, v_astore, v_iinc, v_iadd, v_isub, v_imul, v_iand, v_ior, v_ixor, v_ishl, v_ishr, v_iushr, v_ineg, v_idiv, v_irem, v_ladd, v_lsub, v_lmul, v_lcmp, v_i2l, v_l2i, v_i2c, v_dup, v_dup2, v_if_eq, v_if_ne, v_if_lt, v_if_ge, v_if_gt, v_if_le, v_ic_eq, v_ic_ne, v_ic_lt, v_ic_ge, v_ic_gt, v_ic_le, v_goto, v_tsw, v_lsw, v_ireturn, v_areturn, v_return, v_iaload, v_laload, v_baload, v_caload, v_aaload, v_iastore, v_lastore, v_bastore, v_castore, v_alen, v_invvi, v_invst, v_invsp, e_int, e_lng, e_ref, e_lg0, e_lg1, e_lg2, e_lg3, e_lg4, e_lg5, e_lg6, e_lg7, e_lg8, e_lg9, e_lg10, e_lg11, e_lg12, e_lg13, e_clrI, e_clrJ, e_clrP, e_clrN, e_s0, e_s1, e_s2, e_s3, e_s4, e_s5, e_s6, e_s7, e_s8, e_s9, e_s10, e_s11, e_s12, e_s13, e_t0, e_t1, e_t2, e_t3, e_t4, e_t5, e_t6, e_t7, e_t8, e_t9, e_t10, e_t11, e_t12, e_t13, e_fd, e_kk, e_k0, e_k1, e_k2, e_k3, e_k4, e_k5, e_k6, e_k7, e_k8, e_k9, e_sv0, e_sv1, e_sv2, e_sv3, e_svc, e_pf0, e_pf1, e_pf2, e_pf3, e_ar, e_aa, e_al, e_sw1, e_sw2, e_ct0, e_ct1, e_ct2, e_cat0, e_cat1, e_rk0, e_rk1, e_rk2, e_inv0, e_inv1, e_inv2, e_inv3, e_inv4, e_inv5, e_inv6, e_o0, e_o1, e_cl, e_cle, e_cg, e_cge, e_ce, e_cr1, e_cr2, e_r, e_R, e_up, Int.cast_ofNat_Int, u_app, false_and, and_false, e_b0, e_b1, e_bn, e_bl, e_bu, Int.reduceLE, Int.reduceLT, Int.reduceEq, Int.reduceNeg, Int.reduceAdd, Int.reduceSub, Int.reduceMul, Nat.reduceLeDiff, Nat.reduceLT, Nat.reduceAdd, Nat.reduceEqDiff, true_and, and_true, true_or, or_true, false_or, or_false, forall_const, not_true_eq_false, not_false_eq_true, true_implies, false_implies, implies_true, and_self, zero_ne_one, one_ne_zero, eq_self, reduceIte, v_getf, v_putf, s_X9_tilesFrom_0, b_X9_tilesFrom_0, s_X9_tilesFrom_7, b_X9_tilesFrom_7, s_X9_tilesFrom_15, b_X9_tilesFrom_15, s_X9_tilesFrom_19, b_X9_tilesFrom_19, s_X9_tilesFrom_20, b_X9_tilesFrom_20, s_X9_tilesFrom_21, b_X9_tilesFrom_21, s_X9_tilesFrom_27, b_X9_tilesFrom_27, s_X9_tilesFrom_36, b_X9_tilesFrom_36, s_X9_tilesFrom_59, b_X9_tilesFrom_59, fl_X9_73, fl_X9_79, fl_X9_89, fl_X9_15, T_20, fl_X9_92, G_X9_tilesFrom_95, sp_X9_across_e, hT]
  refine ⟨h0, by omega, fun c => ?_, fun c => ⟨h0, h4, fun c1 => ?_, fun c1 => ?_⟩⟩
  · rw [if_neg c] at hk
    exact tf_27 hR hr h2 h1 ho htm hk (μ recipe 1).toNat 0 (by omega)
  · rw [if_pos c, if_neg c1] at hk
    exact hk
  · rw [if_pos c, if_pos c1] at hk
    exact hk
set_option maxRecDepth 100000 in
theorem C_X9_tilesFrom {l : Launch} {ad : Int → Nat} {D : va_G} {cy : Nat → ClassId} {Z : State → Prop} (hZ : q_Zg ad Z) : q_Ct l q_T q_N ad D cy Z yX9_tilesFrom cX9_tilesFrom 6 (some .int) rm_X9_tilesFrom sp_X9_tilesFrom := by
  obtain ⟨hf, hg, hld⟩ := q_chkS k_X9_tilesFrom
  refine q_met (rk := 0) q_wokT (by decide) rfl hf hg hld rfl (q_skS L_X9_tilesFrom o_X9_tilesFrom) ?_ ?_ ?_ ?_ B_X9_tilesFrom
  · intro i hi; exact absurd hi List.not_mem_nil
  · intro i hi
    have hi : i = 95 := by simpa [u_X9_tilesFrom] using hi
    rcases hi with rfl
    · exact q_crV hZ.1 (C_X9_across hZ) rv_X9_across cm_X9_across (by decide +kernel) (by decide +kernel) (by decide +kernel) (by decide +kernel) (by decide +kernel) ⟨rfl, rfl⟩ (by decide)
  · intro i hi; exact absurd hi List.not_mem_nil
  · intro i hi; exact absurd hi List.not_mem_nil
theorem rv_X9_tilesFrom : q_rcv q_T yX9_tilesFrom.cls sp_X9_tilesFrom := by
  intro ra μ K h
  obtain ⟨this, recipe, sheet, tiles, rfl, h⟩ := sp_X9_tilesFrom_i h
  obtain rfl := h.1
  exact ⟨[.inl tiles, .inl sheet, .inr (.inr recipe)], 20, 9, _, _, rfl, T_20, rfl, rfl⟩
theorem cm_X9_tilesFrom : Cond.code yX9_tilesFrom cX9_tilesFrom 6 (some .int) ∈ q_tb := by decide +kernel

