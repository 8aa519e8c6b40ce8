/-! the class: grid, sheets, tape -/
theorem T_cel {s : Int} (h : 0 ≤ s ∧ s < 4) : q_T (4 + s) = some (.inr (.inl 0, 196)) := by
  have : s = 0 ∨ s = 1 ∨ s = 2 ∨ s = 3 := by omega
  rcases this with rfl | rfl | rfl | rfl <;> exact id rfl
/-! shape -/
def c_sh (w h a b m : Int) : Prop := q_mk m ∧ ∀ t : Nat, q_bit m t = true ↔ m_tl w h (t : Int) ∧ ((t : Int) / 3 < a ∨ ((t : Int) / 3 = a ∧ (t : Int) % 3 < b))
def sp_X0_shape : QP := fun ra μ K => match ra with
  | [.inl h9, .inl w, .inr (.inr this)] => this = 1 ∧ m_dim w h9 ∧ K none (q_up (q_up (q_up μ 1 0 w) 1 1 h9) 1 2 (q_tm w h9))
  | _ => False
theorem sp_X0_shape_e (this w h9 : Int) (μ : QM) (K : Option QV → QM → Prop) : sp_X0_shape [.inl h9, .inl w, .inr (.inr this)] μ K = (this = 1 ∧ m_dim w h9 ∧ K none (q_up (q_up (q_up μ 1 0 w) 1 1 h9) 1 2 (q_tm w h9))) := propext Iff.rfl
theorem sp_X0_shape_i {ra : List QV} {μ : QM} {K : Option QV → QM → Prop} (h : sp_X0_shape ra μ K) : ∃ this w h9 : Int, ra = [.inl h9, .inl w, .inr (.inr this)] ∧ (this = 1 ∧ m_dim w h9 ∧ K none (q_up (q_up (q_up μ 1 0 w) 1 1 h9) 1 2 (q_tm w h9))) := by
  unfold sp_X0_shape at h
  split at h
  · exact ⟨_, _, _, rfl, h⟩
  · exact h.elim
def rm_X0_shape : Room := { frames := 1, cells := 0, slots := 0, locals := 21 }
def G_X0_shape : Nat → Nat × QP := fun i => match i with
  | 25 => (2, sp_X10_tileOf)
  | _ => (0, fun _ _ _ => False)
theorem G_X0_shape_25 : G_X0_shape 25 = (2, sp_X10_tileOf) := id rfl
theorem shape_x {Rt : Option QV → QM → Prop} {S : Nat → QL → List QV → QM → Prop} (hR : q_Rule cX0_shape 5 u_X0_shape fl_X0 ld_X0 G_X0_shape q_T 4 s_X0_shape Rt S) {w h a : Int} {μ : QM} (hd : m_dim w h) (ha : 0 ≤ a ∧ 4 * a < h) (hk : ∀ (m : Int) (l4 : Option QV), c_sh w h (a + 1) 0 m → S 17 [some (.inr (.inr 1)), some (.inl w), some (.inl h), some (.inl (4 * a + 4)), l4] [] (q_up μ 1 2 m)) : ∀ (n : Nat) (b m : Int), 0 ≤ b → b ≤ 3 → 3 - b < n → c_sh w h a b m → S 25 [some (.inr (.inr 1)), some (.inl w), some (.inl h), some (.inl (4 * a)), some (.inl (4 * b))] [] (q_up μ 1 2 m) := by
  intro n
  induction n with
  | zero => intro b m h1 h2 h3; omega
  | succ n ih =>
    intro b m h1 h2 h3 h4
    refine hR 40 b_X0_shape_25 25 _ _ _ o_X0_shape_25 ?_
    simp only [v_opt_n, v_opt_s, v_nil, v_iconst, v_bipush, v_sipush, v_lconst0, v_lconst1, v_ldc, v_ldcw, v_ldc2, v_iload0, v_iload1, v_iload2, v_iload3, v_iload, v_lload0, v_lload1, v_lload2, v_lload3, v_lload, v_aload0, v_aload1, v_aload2, v_aload3, v_aload, v_istore0, v_istore1, v_istore2, v_istore3, v_istore, v_lstore0, v_lstore1, v_lstore2, v_lstore3, v_lstore, v_astore0, v_astore1, v_astore2, v_astore3, v_astore, v_iinc, v_iadd, v_isub, v_imul, v_iand, v_ior, v_ixor, v_ishl, v_ishr, v_iushr, v_ineg, v_idiv, v_irem, v_ladd, v_lsub, v_lmul, v_lcmp, v_i2l, v_l2i, v_i2c, v_dup, v_dup2, v_if_eq, v_if_ne, v_if_lt, v_if_ge, v_if_gt, v_if_le, v_ic_eq, v_ic_ne, v_ic_lt, v_ic_ge, v_ic_gt, v_ic_le, v_goto, v_tsw, v_lsw, v_ireturn, v_areturn, v_return, v_iaload, v_laload, v_baload, v_caload, v_aaload, v_iastore, v_lastore, v_bastore, v_castore, v_alen, v_invvi, v_invst, v_invsp, e_int, e_lng, e_ref, e_lg0, e_lg1, e_lg2, e_lg3, e_lg4, e_lg5, e_lg6, e_lg7, e_lg8, e_lg9, e_lg10, e_lg11, e_lg12, e_lg13, e_clrI, e_clrJ, e_clrP, e_clrN, e_s0, e_s1, e_s2, e_s3, e_s4, e_s5, e_s6, e_s7, e_s8, e_s9, e_s10, e_s11, e_s12, e_s13, e_t0, e_t1, e_t2, e_t3, e_t4, e_t5, e_t6, e_t7, e_t8, e_t9, e_t10, e_t11, e_t12, e_t13, e_fd, e_kk, e_k0, e_k1, e_k2, e_k3, e_k4, e_k5, e_k6, e_k7, e_k8, e_k9, e_sv0, e_sv1, e_sv2, e_sv3, e_svc, e_pf0, e_pf1, e_pf2, e_pf3, e_ar, e_aa, e_al, e_sw1, e_sw2, e_ct0, e_ct1, e_ct2, e_cat0, e_cat1, e_rk0, e_rk1, e_rk2, e_inv0, e_inv1, e_inv2, e_inv3, e_inv4, e_inv5, e_inv6, e_o0, e_o1, e_cl, e_cle, e_cg, e_cge, e_ce, e_cr1, e_cr2, e_r, e_R, e_up, Int.cast_ofNat_Int, u_app, false_and, and_false, e_b0, e_b1, e_bn, e_bl, e_bu, Int.reduceLE, Int.reduceLT, Int.reduceEq, Int.reduceNeg, Int.reduceAdd, Int.reduceSub, Int.reduceMul, Nat.reduceLeDiff, Nat.reduceLT, Nat.reduceAdd, Nat.reduceEqDiff, true_and, and_true, true_or, or_true, false_or, or_false, forall_const, not_true_eq_false, not_false_eq_true, true_implies, false_implies, implies_true, and_self, zero_ne_one, one_ne_zero, eq_self, reduceIte, s_X0_shape_0, b_X0_shape_0, s_X0_shape_17, b_X0_shape_17, s_X0_shape_22, b_X0_shape_22, s_X0_shape_25, b_X0_shape_25, s_X0_shape_31, b_X0_shape_31, s_X0_shape_54, b_X0_shape_54, s_X0_shape_60, b_X0_shape_60, g_X0_15, p_X0_15, g_X0_19, p_X0_19, g_X0_22, p_X0_22, G_X0_shape_25, sp_X10_tileOf_e]
    refine ⟨by omega, fun c => hk m _ ⟨h4.1, fun t => ?_⟩, fun c => ⟨by omega, ?_⟩⟩
    · rw [h4.2 t]
      constructor <;> intro q <;> omega
    · rw [u_twice, show 4 * b + 4 = 4 * (b + 1) by omega, show 4 * a / 4 * 3 + 4 * b / 4 = 3 * a + b by omega]
      refine ih (b + 1) _ (by omega) (by omega) (by omega) ⟨q_mk_or h4.1 (q_mk_one (by omega) (by omega)), fun t => ?_⟩
      rw [bt_or, Bool.or_eq_true, h4.2 t, bt_one (by omega) (by omega), decide_eq_true_iff]
      constructor <;> intro q <;> omega
theorem shape_y {Rt : Option QV → QM → Prop} {S : Nat → QL → List QV → QM → Prop} (hR : q_Rule cX0_shape 5 u_X0_shape fl_X0 ld_X0 G_X0_shape q_T 4 s_X0_shape Rt S) {w h : Int} {μ : QM} (hd : m_dim w h) (hk : Rt none (q_up μ 1 2 (q_tm w h))) : ∀ (n : Nat) (a m : Int) (l4 : Option QV), 0 ≤ a → a ≤ 3 → 3 - a < n → c_sh w h a 0 m → S 17 [some (.inr (.inr 1)), some (.inl w), some (.inl h), some (.inl (4 * a)), l4] [] (q_up μ 1 2 m) := by
  intro n
  induction n with
  | zero => intro a m l4 h1 h2 h3; omega
  | succ n ih =>
    intro a m l4 h1 h2 h3 h4
    refine hR 40 b_X0_shape_17 17 _ _ _ o_X0_shape_17 ?_
    simp only [v_opt_n, v_opt_s, v_nil, v_iconst, v_bipush, v_sipush, v_lconst0, v_lconst1, v_ldc, v_ldcw, v_ldc2, v_iload0, v_iload1, v_iload2, v_iload3, v_iload, v_lload0, v_lload1, v_lload2, v_lload3, v_lload, v_aload0, v_aload1, v_aload2, v_aload3, v_aload, v_istore0, v_istore1, v_istore2, v_istore3, v_istore, v_lstore0, v_lstore1, v_lstore2, v_lstore3, v_lstore, v_astore0, v_astore1, v_astore2, v_astore3, v_astore, v_iinc, v_iadd, v_isub, v_imul, v_iand, v_ior, v_ixor, v_ishl, v_ishr, v_iushr, v_ineg, v_idiv, v_irem, v_ladd, v_lsub, v_lmul, v_lcmp, v_i2l, v_l2i, v_i2c, v_dup, v_dup2, v_if_eq, v_if_ne, v_if_lt, v_if_ge, v_if_gt, v_if_le, v_ic_eq, v_ic_ne, v_ic_lt, v_ic_ge, v_ic_gt, v_ic_le, v_goto, v_tsw, v_lsw, v_ireturn, v_areturn, v_return, v_iaload, v_laload, v_baload, v_caload, v_aaload, v_iastore, v_lastore, v_bastore, v_castore, v_alen, v_invvi, v_invst, v_invsp, e_int, e_lng, e_ref, e_lg0, e_lg1, e_lg2, e_lg3, e_lg4, e_lg5, e_lg6, e_lg7, e_lg8, e_lg9, e_lg10, e_lg11, e_lg12, e_lg13, e_clrI, e_clrJ, e_clrP, e_clrN, e_s0, e_s1, e_s2, e_s3, e_s4, e_s5, e_s6, e_s7, e_s8, e_s9, e_s10, e_s11, e_s12, e_s13, e_t0, e_t1, e_t2, e_t3, e_t4, e_t5, e_t6, e_t7, e_t8, e_t9, e_t10, e_t11, e_t12, e_t13, e_fd, e_kk, e_k0, e_k1, e_k2, e_k3, e_k4, e_k5, e_k6, e_k7, e_k8, e_k9, e_sv0, e_sv1, e_sv2, e_sv3, e_svc, e_pf0, e_pf1, e_pf2, e_pf3, e_ar, e_aa, e_al, e_sw1, e_sw2, e_ct0, e_ct1, e_ct2, e_cat0, e_cat1, e_rk0, e_rk1, e_rk2, e_inv0, e_inv1, e_inv2, e_inv3, e_inv4, e_inv5, e_inv6, e_o0, e_o1, e_cl, e_cle, e_cg, e_cge, e_ce, e_cr1, e_cr2, e_r, e_R, e_up, Int.cast_ofNat_Int, u_app, false_and, and_false, e_b0, e_b1, e_bn, e_bl, e_bu, Int.reduceLE, Int.reduceLT, Int.reduceEq, Int.reduceNeg, Int.reduceAdd, Int.reduceSub, Int.reduceMul, Nat.reduceLeDiff, Nat.reduceLT, Nat.reduceAdd, Nat.reduceEqDiff, true_and, and_true, true_or, or_true, false_or, or_false, forall_const, not_true_eq_false, not_false_eq_true, true_implies, false_implies, implies_true, and_self, zero_ne_one, one_ne_zero, eq_self, reduceIte, s_X0_shape_0, b_X0_shape_0, s_X0_shape_17, b_X0_shape_17, s_X0_shape_22, b_X0_shape_22, s_X0_shape_25, b_X0_shape_25, s_X0_shape_31, b_X0_shape_31, s_X0_shape_54, b_X0_shape_54, s_X0_shape_60, b_X0_shape_60, g_X0_15, p_X0_15, g_X0_19, p_X0_19, g_X0_22, p_X0_22, G_X0_shape_25, sp_X10_tileOf_e]
    refine ⟨by omega, fun c => ?_, fun c => ?_⟩
    · have e : m = q_tm w h := by
        refine q_mk_ext h4.1 (q_mk_tm w h) (fun t ht => ?_)
        rw [q_tm_bit, Bool.eq_iff_iff, h4.2 t, decide_eq_true_iff]
        constructor <;> intro q <;> omega
      rw [e]
      exact hk
    · refine shape_x hR hd ⟨h1, by omega⟩ (fun m l4 q => ?_) 4 0 m (by omega) (by omega) (by omega) h4
      rw [show 4 * a + 4 = 4 * (a + 1) by omega]
      exact ih (a + 1) m l4 (by omega) (by omega) (by omega) q
set_option maxRecDepth 100000 in
set_option maxHeartbeats 4000000 in
theorem B_X0_shape : q_Body cX0_shape 5 u_X0_shape fl_X0 ld_X0 G_X0_shape q_T 4 s_X0_shape sp_X0_shape := by
  intro S Rt hR ra μ h
  obtain ⟨this, w, h9, rfl, h⟩ := sp_X0_shape_i h
  refine ⟨by simp [q_sl, q_ct], ?_⟩
  show S 0 [some (.inr (.inr this)), some (.inl w), some (.inl h9), none, none] [] μ
  obtain ⟨rfl, h1, hk⟩ := h
  refine hR 40 [] 0 _ _ _ rfl ?_
  simp only [v_opt_n, v_opt_s, v_nil, v_iconst, v_bipush, v_sipush, v_lconst0, v_lconst1, v_ldc, v_ldcw, v_ldc2, v_iload0, v_iload1, v_iload2, v_iload3, v_iload, v_lload0, v_lload1, v_lload2, v_lload3, v_lload, v_aload0, v_aload1, v_aload2, v_aload3, v_aload, v_istore0, v_istore1, v_istore2, v_istore3, v_istore, v_lstore0, v_lstore1, v_lstore2, v_lstore3, v_lstore, v_astore0, v_astore1, v_astore2, v_astore3, v_astore, v_iinc, v_iadd, v_isub, v_imul, v_iand, v_ior, v_ixor, v_ishl, v_ishr, v_iushr, v_ineg, v_idiv, v_irem, v_ladd, v_lsub, v_lmul, v_lcmp, v_i2l, v_l2i, v_i2c, v_dup, v_dup2, v_if_eq, v_if_ne, v_if_lt, v_if_ge, v_if_gt, v_if_le, v_ic_eq, v_ic_ne, v_ic_lt, v_ic_ge, v_ic_gt, v_ic_le, v_goto, v_tsw, v_lsw, v_ireturn, v_areturn, v_return, v_iaload, v_laload, v_baload, v_caload, v_aaload, v_iastore, v_lastore, v_bastore, v_castore, v_alen, v_invvi, v_invst, v_invsp, e_int, e_lng, e_ref, e_lg0, e_lg1, e_lg2, e_lg3, e_lg4, e_lg5, e_lg6, e_lg7, e_lg8, e_lg9, e_lg10, e_lg11, e_lg12, e_lg13, e_clrI, e_clrJ, e_clrP, e_clrN, e_s0, e_s1, e_s2, e_s3, e_s4, e_s5, e_s6, e_s7, e_s8, e_s9, e_s10, e_s11, e_s12, e_s13, e_t0, e_t1, e_t2, e_t3, e_t4, e_t5, e_t6, e_t7, e_t8, e_t9, e_t10, e_t11, e_t12, e_t13, e_fd, e_kk, e_k0, e_k1, e_k2, e_k3, e_k4, e_k5, e_k6, e_k7, e_k8, e_k9, e_sv0, e_sv1, e_sv2, e_sv3, e_svc, e_pf0, e_pf1, e_pf2, e_pf3, e_ar, e_aa, e_al, e_sw1, e_sw2, e_ct0, e_ct1, e_ct2, e_cat0, e_cat1, e_rk0, e_rk1, e_rk2, e_inv0, e_inv1, e_inv2, e_inv3, e_inv4, e_inv5, e_inv6, e_o0, e_o1, e_cl, e_cle, e_cg, e_cge, e_ce, e_cr1, e_cr2, e_r, e_R, e_up, Int.cast_ofNat_Int, u_app, false_and, and_false, e_b0, e_b1, e_bn, e_bl, e_bu, Int.reduceLE, Int.reduceLT, Int.reduceEq, Int.reduceNeg, Int.reduceAdd, Int.reduceSub, Int.reduceMul, Nat.reduceLeDiff, Nat.reduceLT, Nat.reduceAdd, Nat.reduceEqDiff, true_and, and_true, true_or, or_true, false_or, or_false, forall_const, not_true_eq_false, not_false_eq_true, true_implies, false_implies, implies_true, and_self, zero_ne_one, one_ne_zero, eq_self, reduceIte, s_X0_shape_0, b_X0_shape_0, s_X0_shape_17, b_X0_shape_17, s_X0_shape_22, b_X0_shape_22, s_X0_shape_25, b_X0_shape_25, s_X0_shape_31, b_X0_shape_31, s_X0_shape_54, b_X0_shape_54, s_X0_shape_60, b_X0_shape_60, g_X0_15, p_X0_15, g_X0_19, p_X0_19, g_X0_22, p_X0_22, G_X0_shape_25, sp_X10_tileOf_e]
  refine shape_y hR h1 hk 4 0 0 none (by omega) (by omega) (by omega) ⟨q_mk_0, fun t => ?_⟩
  rw [bt_0]
  constructor
  · intro q
    cases q
  · intro q
    omega
set_option maxRecDepth 100000 in
theorem C_X0_shape {l : Launch} {ad : Int → Nat} {D : va_G} {cy : Nat → ClassId} {Z : State → Prop} (hZ : q_Zg ad Z) : q_Ct l q_T q_N ad D cy Z yX0_shape cX0_shape 5 none rm_X0_shape sp_X0_shape := by
  obtain ⟨hf, hg, hld⟩ := q_chkS k_X0_shape
  refine q_met (rk := 4) q_wokT (by decide) rfl hf hg hld rfl (q_skS L_X0_shape o_X0_shape) ?_ ?_ ?_ ?_ B_X0_shape
  · intro i hi; exact absurd hi List.not_mem_nil
  · intro i hi; exact absurd hi List.not_mem_nil
  · intro i hi
    have hi : i = 25 := by simpa [u_X0_shape] using hi
    rcases hi with rfl
    · exact q_crSN hZ.1 (C_X10_tileOf hZ) cm_X10_tileOf (fun s h => hZ.2 s h (RX0, 25, yX10_tileOf, "BoardSums") (List.mem_of_getElem? (i := 0) rfl)) (by decide +kernel) (by decide +kernel) (by decide +kernel) ⟨rfl, rfl⟩ (by decide)
  · intro i hi; exact absurd hi List.not_mem_nil
theorem rv_X0_shape : q_rcv q_T yX0_shape.cls sp_X0_shape := by
  intro ra μ K h
  obtain ⟨this, w, h9, rfl, h⟩ := sp_X0_shape_i h
  obtain rfl := h.1
  exact ⟨[.inl h9, .inl w], 1, 0, _, _, rfl, T_1, rfl, rfl⟩
theorem cm_X0_shape : Cond.code yX0_shape cX0_shape 5 none ∈ q_tb := by decide +kernel
/-! the sheets -/
def q_rows (μ : QM) (a i n v : Int) : QM := fun b j => if a ≤ b ∧ b < a + i ∧ 0 ≤ j ∧ j < n then v else μ b j
theorem u_rows (μ : QM) (a i n v b j : Int) : q_rows μ a i n v b j = if a ≤ b ∧ b < a + i ∧ 0 ≤ j ∧ j < n then v else μ b j := id rfl
theorem q_rows_0 {μ : QM} {a n v : Int} : q_rows μ a 0 n v = μ := by
  funext b j
  rw [u_rows, if_neg (by omega)]
theorem q_rows_s {μ : QM} {a i n v : Int} (h : 0 ≤ i) : (fun b j => if b = a + i ∧ 0 ≤ j ∧ j < n then v else q_rows μ a i n v b j) = q_rows μ a (i + 1) n v := by
  funext b j
  rw [u_rows, u_rows]
  by_cases c : b = a + i ∧ 0 ≤ j ∧ j < n
  · rw [if_pos c, if_pos (by omega)]
  · rw [if_neg c]
    by_cases c2 : a ≤ b ∧ b < a + i ∧ 0 ≤ j ∧ j < n
    · rw [if_pos c2, if_pos (by omega)]
    · rw [if_neg c2, if_neg (by omega)]
def sp_X5_empty : QP := fun ra μ K => match ra with
  | [.inr (.inr this)] => this = 2 ∧ K none (q_fill (q_rows μ 4 4 196 (-2000000000)) 12 0 3 0)
  | _ => False
theorem sp_X5_empty_e (this : Int) (μ : QM) (K : Option QV → QM → Prop) : sp_X5_empty [.inr (.inr this)] μ K = (this = 2 ∧ K none (q_fill (q_rows μ 4 4 196 (-2000000000)) 12 0 3 0)) := propext Iff.rfl
theorem sp_X5_empty_i {ra : List QV} {μ : QM} {K : Option QV → QM → Prop} (h : sp_X5_empty ra μ K) : ∃ this : Int, ra = [.inr (.inr this)] ∧ (this = 2 ∧ K none (q_fill (q_rows μ 4 4 196 (-2000000000)) 12 0 3 0)) := by
  unfold sp_X5_empty at h
  split at h
  · exact ⟨_, rfl, h⟩
  · exact h.elim
def rm_X5_empty : Room := { frames := 1, cells := 0, slots := 0, locals := 23 }
def G_X5_empty : Nat → Nat × QP := fun i => match i with
  | 27 => (2, sp_J7_fill_53178)
  | _ => (0, fun _ _ _ => False)
theorem G_X5_empty_27 : G_X5_empty 27 = (2, sp_J7_fill_53178) := id rfl
theorem se_26 {Rt : Option QV → QM → Prop} {S : Nat → QL → List QV → QM → Prop} (hR : q_Rule cX5_empty 2 u_X5_empty fl_X5 ld_X5 G_X5_empty q_T 4 s_X5_empty Rt S) : ∀ (n : Nat) (i : Int) (μ : QM), 0 ≤ i → i ≤ 3 → 3 - i < n → Rt none (q_fill μ 12 i 3 0) → S 26 [some (.inr (.inr 2)), some (.inl i)] [] μ := by
  intro n
  induction n with
  | zero => intro i μ h1 h2 h3; omega
  | succ n ih =>
    intro i μ h1 h2 h3 h4
    refine hR 40 b_X5_empty_26 26 _ _ _ o_X5_empty_26 ?_
    simp only [v_opt_n, v_opt_s, v_nil, v_iconst, v_bipush, v_sipush, v_lconst0, v_lconst1, v_ldc, v_ldcw, v_ldc2, v_iload0, v_iload1, v_iload2, v_iload3, v_iload, v_lload0, v_lload1, v_lload2, v_lload3, v_lload, v_aload0, v_aload1, v_aload2, v_aload3, v_aload, v_istore0, v_istore1, v_istore2, v_istore3, v_istore, v_lstore0, v_lstore1, v_lstore2, v_lstore3, v_lstore, v_astore0, v_astore1, v_astore2, v_astore3, v_astore, v_iinc, v_iadd, v_isub, v_imul, v_iand, v_ior, v_ixor, v_ishl, v_ishr, v_iushr, v_ineg, v_idiv, v_irem, v_ladd, v_lsub, v_lmul, v_lcmp, v_i2l, v_l2i, v_i2c, v_dup, v_dup2, v_if_eq, v_if_ne, v_if_lt, v_if_ge, v_if_gt, v_if_le, v_ic_eq, v_ic_ne, v_ic_lt, v_ic_ge, v_ic_gt, v_ic_le, v_goto, v_tsw, v_lsw, v_ireturn, v_areturn, v_return, v_iaload, v_laload, v_baload, v_caload, v_aaload, v_iastore, v_lastore, v_bastore, v_castore, v_alen, v_invvi, v_invst, v_invsp, e_int, e_lng, e_ref, e_lg0, e_lg1, e_lg2, e_lg3, e_lg4, e_lg5, e_lg6, e_lg7, e_lg8, e_lg9, e_lg10, e_lg11, e_lg12, e_lg13, e_clrI, e_clrJ, e_clrP, e_clrN, e_s0, e_s1, e_s2, e_s3, e_s4, e_s5, e_s6, e_s7, e_s8, e_s9, e_s10, e_s11, e_s12, e_s13, e_t0, e_t1, e_t2, e_t3, e_t4, e_t5, e_t6, e_t7, e_t8, e_t9, e_t10, e_t11, e_t12, e_t13, e_fd, e_kk, e_k0, e_k1, e_k2, e_k3, e_k4, e_k5, e_k6, e_k7, e_k8, e_k9, e_sv0, e_sv1, e_sv2, e_sv3, e_svc, e_pf0, e_pf1, e_pf2, e_pf3, e_ar, e_aa, e_al, e_sw1, e_sw2, e_ct0, e_ct1, e_ct2, e_cat0, e_cat1, e_rk0, e_rk1, e_rk2, e_inv0, e_inv1, e_inv2, e_inv3, e_inv4, e_inv5, e_inv6, e_o0, e_o1, e_cl, e_cle, e_cg, e_cge, e_ce, e_cr1, e_cr2, e_r, e_R, e_up, Int.cast_ofNat_Int, u_app, false_and, and_false, e_b0, e_b1, e_bn, e_bl, e_bu, Int.reduceLE, Int.reduceLT, Int.reduceEq, Int.reduceNeg, Int.reduceAdd, Int.reduceSub, Int.reduceMul, Nat.reduceLeDiff, Nat.reduceLT, Nat.reduceAdd, Nat.reduceEqDiff, true_and, and_true, true_or, or_true, false_or, or_false, forall_const, not_true_eq_false, not_false_eq_true, true_implies, false_implies, implies_true, and_self, zero_ne_one, one_ne_zero, eq_self, reduceIte, s_X5_empty_0, b_X5_empty_0, s_X5_empty_2, b_X5_empty_2, s_X5_empty_7, b_X5_empty_7, s_X5_empty_24, b_X5_empty_24, s_X5_empty_26, b_X5_empty_26, s_X5_empty_31, b_X5_empty_31, s_X5_empty_44, b_X5_empty_44, g_X5_11, g_X5_19, ld_X5_26, G_X5_empty_27, sp_J7_fill_53178_e, T_12]
    refine ⟨by omega, fun c => ?_, fun c => ⟨by omega, by omega, ih (i + 1) _ (by omega) (by omega) (by omega) ?_⟩⟩
    · rw [q_fill_e (by omega)] at h4
      exact h4
    · rw [q_fill_s (by omega)]
      exact h4
theorem se_2 {Rt : Option QV → QM → Prop} {S : Nat → QL → List QV → QM → Prop} (hR : q_Rule cX5_empty 2 u_X5_empty fl_X5 ld_X5 G_X5_empty q_T 4 s_X5_empty Rt S) {μ : QM} (hk : Rt none (q_fill (q_rows μ 4 4 196 (-2000000000)) 12 0 3 0)) : ∀ (n : Nat) (i : Int), 0 ≤ i → i ≤ 4 → 4 - i < n → S 2 [some (.inr (.inr 2)), some (.inl i)] [] (q_rows μ 4 i 196 (-2000000000)) := by
  intro n
  induction n with
  | zero => intro i h1 h2 h3; omega
  | succ n ih =>
    intro i h1 h2 h3
    refine hR 40 b_X5_empty_2 2 _ _ _ o_X5_empty_2 ?_
    simp only [v_opt_n, v_opt_s, v_nil, v_iconst, v_bipush, v_sipush, v_lconst0, v_lconst1, v_ldc, v_ldcw, v_ldc2, v_iload0, v_iload1, v_iload2, v_iload3, v_iload, v_lload0, v_lload1, v_lload2, v_lload3, v_lload, v_aload0, v_aload1, v_aload2, v_aload3, v_aload, v_istore0, v_istore1, v_istore2, v_istore3, v_istore, v_lstore0, v_lstore1, v_lstore2, v_lstore3, v_lstore, v_astore0, v_astore1, v_astore2, v_astore3, v_astore, v_iinc, v_iadd, v_isub, v_imul, v_iand, v_ior, v_ixor, v_ishl, v_ishr, v_iushr, v_ineg, v_idiv, v_irem, v_ladd, v_lsub, v_lmul, v_lcmp, v_i2l, v_l2i, v_i2c, v_dup, v_dup2, v_if_eq, v_if_ne, v_if_lt, v_if_ge, v_if_gt, v_if_le, v_ic_eq, v_ic_ne, v_ic_lt, v_ic_ge, v_ic_gt, v_ic_le, v_goto, v_tsw, v_lsw, v_ireturn, v_areturn, v_return, v_iaload, v_laload, v_baload, v_caload, v_aaload, v_iastore, v_lastore, v_bastore, v_castore, v_alen, v_invvi, v_invst, v_invsp, e_int, e_lng, e_ref, e_lg0, e_lg1, e_lg2, e_lg3, e_lg4, e_lg5, e_lg6, e_lg7, e_lg8, e_lg9, e_lg10, e_lg11, e_lg12, e_lg13, e_clrI, e_clrJ, e_clrP, e_clrN, e_s0, e_s1, e_s2, e_s3, e_s4, e_s5, e_s6, e_s7, e_s8, e_s9, e_s10, e_s11, e_s12, e_s13, e_t0, e_t1, e_t2, e_t3, e_t4, e_t5, e_t6, e_t7, e_t8, e_t9, e_t10, e_t11, e_t12, e_t13, e_fd, e_kk, e_k0, e_k1, e_k2, e_k3, e_k4, e_k5, e_k6, e_k7, e_k8, e_k9, e_sv0, e_sv1, e_sv2, e_sv3, e_svc, e_pf0, e_pf1, e_pf2, e_pf3, e_ar, e_aa, e_al, e_sw1, e_sw2, e_ct0, e_ct1, e_ct2, e_cat0, e_cat1, e_rk0, e_rk1, e_rk2, e_inv0, e_inv1, e_inv2, e_inv3, e_inv4, e_inv5, e_inv6, e_o0, e_o1, e_cl, e_cle, e_cg, e_cge, e_ce, e_cr1, e_cr2, e_r, e_R, e_up, Int.cast_ofNat_Int, u_app, false_and, and_false, e_b0, e_b1, e_bn, e_bl, e_bu, Int.reduceLE, Int.reduceLT, Int.reduceEq, Int.reduceNeg, Int.reduceAdd, Int.reduceSub, Int.reduceMul, Nat.reduceLeDiff, Nat.reduceLT, Nat.reduceAdd, Nat.reduceEqDiff, true_and, and_true, true_or, or_true, false_or, or_false, forall_const, not_true_eq_false, not_false_eq_true, true_implies, false_implies, implies_true, and_self, zero_ne_one, one_ne_zero, eq_self, reduceIte, s_X5_empty_0, b_X5_empty_0, s_X5_empty_2, b_X5_empty_2, s_X5_empty_7, b_X5_empty_7, s_X5_empty_24, b_X5_empty_24, s_X5_empty_26, b_X5_empty_26, s_X5_empty_31, b_X5_empty_31, s_X5_empty_44, b_X5_empty_44, g_X5_11, g_X5_19, ld_X5_26, G_X5_empty_27, sp_J7_fill_53178_e, T_3]
    refine ⟨by omega, fun c => ?_, fun c => ?_⟩
    · obtain rfl : i = 4 := by omega
      exact se_26 hR 4 0 _ (by omega) (by omega) (by omega) hk
    · refine ⟨h1, by omega, by omega, 196, T_cel (by omega), by omega, ?_⟩
      have := ih (i + 1) (by omega) (by omega) (by omega)
      rw [← q_rows_s h1] at this
      exact this
set_option maxRecDepth 100000 in
set_option maxHeartbeats 4000000 in
theorem B_X5_empty : q_Body cX5_empty 2 u_X5_empty fl_X5 ld_X5 G_X5_empty q_T 4 s_X5_empty sp_X5_empty := by
  intro S Rt hR ra μ h
  obtain ⟨this, rfl, h⟩ := sp_X5_empty_i h
  refine ⟨by simp [q_sl, q_ct], ?_⟩
  show S 0 [some (.inr (.inr this)), none] [] μ
  obtain ⟨rfl, hk⟩ := h
  refine hR 40 [] 0 _ _ _ rfl ?_
  simp only [v_opt_n, v_opt_s, v_nil, v_iconst, v_bipush, v_sipush, v_lconst0, v_lconst1, v_ldc, v_ldcw, v_ldc2, v_iload0, v_iload1, v_iload2, v_iload3, v_iload, v_lload0, v_lload1, v_lload2, v_lload3, v_lload, v_aload0, v_aload1, v_aload2, v_aload3, v_aload, v_istore0, v_istore1, v_istore2, v_istore3, v_istore, v_lstore0, v_lstore1, v_lstore2, v_lstore3, v_lstore, v_astore0, v_astore1, v_astore2, v_astore3, v_astore, v_iinc, v_iadd, v_isub, v_imul, v_iand, v_ior, v_ixor, v_ishl, v_ishr, v_iushr, v_ineg, v_idiv, v_irem, v_ladd, v_lsub, v_lmul, v_lcmp, v_i2l, v_l2i, v_i2c, v_dup, v_dup2, v_if_eq, v_if_ne, v_if_lt, v_if_ge, v_if_gt, v_if_le, v_ic_eq, v_ic_ne, v_ic_lt, v_ic_ge, v_ic_gt, v_ic_le, v_goto, v_tsw, v_lsw, v_ireturn, v_areturn, v_return, v_iaload, v_laload, v_baload, v_caload, v_aaload, v_iastore, v_lastore, v_bastore, v_castore, v_alen, v_invvi, v_invst, v_invsp, e_int, e_lng, e_ref, e_lg0, e_lg1, e_lg2, e_lg3, e_lg4, e_lg5, e_lg6, e_lg7, e_lg8, e_lg9, e_lg10, e_lg11, e_lg12, e_lg13, e_clrI, e_clrJ, e_clrP, e_clrN, e_s0, e_s1, e_s2, e_s3, e_s4, e_s5, e_s6, e_s7, e_s8, e_s9, e_s10, e_s11, e_s12, e_s13, e_t0, e_t1, e_t2, e_t3, e_t4, e_t5, e_t6, e_t7, e_t8, e_t9, e_t10, e_t11, e_t12, e_t13, e_fd, e_kk, e_k0, e_k1, e_k2, e_k3, e_k4, e_k5, e_k6, e_k7, e_k8, e_k9, e_sv0, e_sv1, e_sv2, e_sv3, e_svc, e_pf0, e_pf1, e_pf2, e_pf3, e_ar, e_aa, e_al, e_sw1, e_sw2, e_ct0, e_ct1, e_ct2, e_cat0, e_cat1, e_rk0, e_rk1, e_rk2, e_inv0, e_inv1, e_inv2, e_inv3, e_inv4, e_inv5, e_inv6, e_o0, e_o1, e_cl, e_cle, e_cg, e_cge, e_ce, e_cr1, e_cr2, e_r, e_R, e_up, Int.cast_ofNat_Int, u_app, false_and, and_false, e_b0, e_b1, e_bn, e_bl, e_bu, Int.reduceLE, Int.reduceLT, Int.reduceEq, Int.reduceNeg, Int.reduceAdd, Int.reduceSub, Int.reduceMul, Nat.reduceLeDiff, Nat.reduceLT, Nat.reduceAdd, Nat.reduceEqDiff, true_and, and_true, true_or, or_true, false_or, or_false, forall_const, not_true_eq_false, not_false_eq_true, true_implies, false_implies, implies_true, and_self, zero_ne_one, one_ne_zero, eq_self, reduceIte, s_X5_empty_0, b_X5_empty_0, s_X5_empty_2, b_X5_empty_2, s_X5_empty_7, b_X5_empty_7, s_X5_empty_24, b_X5_empty_24, s_X5_empty_26, b_X5_empty_26, s_X5_empty_31, b_X5_empty_31, s_X5_empty_44, b_X5_empty_44, g_X5_11, g_X5_19, ld_X5_26, G_X5_empty_27, sp_J7_fill_53178_e]
  have := se_2 hR hk 5 0 (by omega) (by omega) (by omega)
  rw [q_rows_0] at this
  exact this
set_option maxRecDepth 100000 in
theorem C_X5_empty {l : Launch} {ad : Int → Nat} {D : va_G} {cy : Nat → ClassId} {Z : State → Prop} (hZ : q_Zg ad Z) : q_Ct l q_T q_N ad D cy Z yX5_empty cX5_empty 2 none rm_X5_empty sp_X5_empty := by
  obtain ⟨hf, hg, hld⟩ := q_chkS k_X5_empty
  refine q_met (rk := 4) q_wokT (by decide) rfl hf hg hld rfl (q_skS L_X5_empty o_X5_empty) ?_ ?_ ?_ ?_ B_X5_empty
  · intro i hi; exact absurd hi List.not_mem_nil
  · intro i hi; exact absurd hi List.not_mem_nil
  · intro i hi
    have hi : i = 27 := by simpa [u_X5_empty] using hi
    rcases hi with rfl
    · exact q_crS hZ.1 (C_J7_fill_53178 hZ) cm_J7_fill_53178 (by decide +kernel) (by decide +kernel) (by decide +kernel) (by decide +kernel) ⟨rfl, rfl⟩ (by decide)
  · intro i hi; exact absurd hi List.not_mem_nil
theorem rv_X5_empty : q_rcv q_T yX5_empty.cls sp_X5_empty := by
  intro ra μ K h
  obtain ⟨this, rfl, h⟩ := sp_X5_empty_i h
  obtain rfl := h.1
  exact ⟨[], 2, 5, _, _, rfl, T_2, rfl, rfl⟩
theorem cm_X5_empty : Cond.code yX5_empty cX5_empty 2 none ∈ q_tb := by decide +kernel
def sp_arraycopy : QP := fun ra μ K => match ra with
  | [.inl n, .inl dp, .inr (.inr dst), .inl sp, .inr (.inr src)] => ∃ N0 N1 : Nat, q_T src = some (.inr (.inl 0, N0)) ∧ q_T dst = some (.inr (.inl 0, N1)) ∧ (N0 ≤ 100000 ∧ N1 ≤ 100000) ∧ (0 ≤ sp ∧ 0 ≤ dp ∧ 0 ≤ n ∧ sp + n ≤ N0 ∧ dp + n ≤ N1) ∧ K none (fun b j => if b = dst ∧ dp ≤ j ∧ j < dp + n then μ src (sp + (j - dp)) else μ b j)
  | _ => False
theorem sp_arraycopy_e (src sp dst dp n : Int) (μ : QM) (K : Option QV → QM → Prop) : sp_arraycopy [.inl n, .inl dp, .inr (.inr dst), .inl sp, .inr (.inr src)] μ K = (∃ N0 N1 : Nat, q_T src = some (.inr (.inl 0, N0)) ∧ q_T dst = some (.inr (.inl 0, N1)) ∧ (N0 ≤ 100000 ∧ N1 ≤ 100000) ∧ (0 ≤ sp ∧ 0 ≤ dp ∧ 0 ≤ n ∧ sp + n ≤ N0 ∧ dp + n ≤ N1) ∧ K none (fun b j => if b = dst ∧ dp ≤ j ∧ j < dp + n then μ src (sp + (j - dp)) else μ b j)) := propext Iff.rfl
theorem sp_arraycopy_i {ra : List QV} {μ : QM} {K : Option QV → QM → Prop} (h : sp_arraycopy ra μ K) : ∃ src sp dst dp n : Int, ra = [.inl n, .inl dp, .inr (.inr dst), .inl sp, .inr (.inr src)] ∧ (∃ N0 N1 : Nat, q_T src = some (.inr (.inl 0, N0)) ∧ q_T dst = some (.inr (.inl 0, N1)) ∧ (N0 ≤ 100000 ∧ N1 ≤ 100000) ∧ (0 ≤ sp ∧ 0 ≤ dp ∧ 0 ≤ n ∧ sp + n ≤ N0 ∧ dp + n ≤ N1) ∧ K none (fun b j => if b = dst ∧ dp ≤ j ∧ j < dp + n then μ src (sp + (j - dp)) else μ b j)) := by
  unfold sp_arraycopy at h
  split at h
  · exact ⟨_, _, _, _, _, rfl, h⟩
  · exact h.elim
section QAC
variable {l : Launch} {ad : Int → Nat} {D : va_G} {cy : Nat → ClassId} {Z : State → Prop}
theorem q_crCpy {own : String} {cc : ByteArray} {nL i : Nat} {R : Room} (h1 : Cond.methodLink own i arraycopyName ∈ q_tb) (hR : 1 ≤ R.frames ∧ 8 + (nativeFrameWords "java/lang/System" "arraycopy" 5 + 11) ≤ R.locals) : q_CR l q_T q_N ad D cy Z own cc nL R (5, sp_arraycopy) (.invokestatic i) := by
  intro Rt p e s m args below meth c F hml hZ pc ls st μ K hdg hlen hcat hsp hk hn H locs la hP hD hS hl
  have hts := F.2.2.2.1
  obtain ⟨src, sp, dst, dp, n, e1, N0, N1, t0, t1, hN, hb, hK⟩ := sp_arraycopy_i hsp
  have e2 := q_take2 e1
  have hcat : q_cats (st.drop 5) ≤ 8 := hcat
  have hlv : (((st.drop 5).map (q_cv ad)).map fun v => v.category).sum ≤ 8 := by
    have := q_roomS (ad := ad) (m := m) (pc := pc) (la := la) (x := []) hcat
    have e9 : (F0 m pc la []).monitorRoom = 0 := rfl
    omega
  obtain ⟨z0, k0, hk0, hw0⟩ := q_cell (ad := ad) F t0
  obtain ⟨z1, k1, hk1, hw1⟩ := q_cell (ad := ad) F t1
  have hKK := F.2.2.2.2.1
  have hNN := F.2.2.2.2.2.2.1
  have c0 := q_cl (a := sp) hb.1 (by omega)
  have c1 := q_cl (a := dp) hb.2.1 (by omega)
  have c2 := q_cl (a := n) hb.2.2.1 (by omega)
  have hm : st.map (q_cv ad) = .int (Int32.ofInt n) :: .int (Int32.ofInt dp) :: .ref (ad dst) :: .int (Int32.ofInt sp) :: .ref (ad src) :: (st.drop 5).map (q_cv ad) := by
    rw [e2, List.map_append]
    show q_cv ad (.inl n) :: q_cv ad (.inl dp) :: q_cv ad (.inr (.inr dst)) :: q_cv ad (.inl sp) :: q_cv ad (.inr (.inr src)) :: _ = _
    rw [q_refv z0, q_refv z1, ← e2]
    rfl
  rw [hm]
  refine va_copyi (cc := cc) (own := own) (index := i) (rest := (st.drop 5).map (q_cv ad)) (f := fun j => Int32.ofInt (μ src j)) (g := fun j => Int32.ofInt (μ dst j)) (ty := .int) F.1 F.2.1 (by rw [hml, ← hl.1]) F.2.2.1 (hts _ h1) (hts _ (by decide +kernel)) (hts _ (by decide +kernel)) (hts _ (by decide +kernel)) hKK hP hD hS k0 k1 0 0 (hw0 μ) (hw1 μ) rfl rfl rfl (fun q => ?_) (fun q => ?_) (fun q => ?_) ?_ ?_ (fun _ _ => rfl) (by omega) (by omega) hdg (fun H1 locs1 hP1 hD1 hS1 => ?_)
  · have := (q_lt0 ⟨by omega, by omega⟩).mp q
    omega
  · have := (q_lt0 ⟨by omega, by omega⟩).mp q
    omega
  · have := (q_lt0 ⟨by omega, by omega⟩).mp q
    omega
  · rw [c0, c2]
    omega
  · rw [c1, c2]
    omega
  · rw [c0, c1, c2] at hP1 hD1
    have hset := q_wss (T := q_T) (ad := ad) (cy := cy) (μ := μ) (μ' := fun b j => if b = dst ∧ dp ≤ j ∧ j < dp + n then μ src (sp + (j - dp)) else μ b j) (e := .inl (cy 0, N1, .inl (va_cpy (fun j => Int32.ofInt (μ src j)) (fun j => Int32.ofInt (μ dst j)) sp.toNat dp.toNat n.toNat))) hNN hk1 ?_ ?_
    · exact hk _ _ hK hn H1 locs1 la (by rw [← hset]; exact hP1) (by rw [← hset]; exact hD1) hS1 hl
    · rw [t1]
      show (Sum.inl _ : va_E) = Sum.inl _
      congr 1
      refine Prod.ext rfl (Prod.ext rfl ?_)
      show (Sum.inl _ : (Nat → Int32) ⊕ (Nat → Int64) ⊕ (Nat → UInt32) ⊕ (Nat → UInt64) ⊕ (Nat → Option Nat)) = Sum.inl _
      congr 1
      funext j
      unfold va_cpy
      dsimp only
      by_cases c : dp.toNat ≤ j ∧ j < dp.toNat + n.toNat
      · rw [if_pos c, if_pos ⟨rfl, by omega, by omega⟩]
        congr 2
        omega
      · rw [if_neg c, if_neg (by omega)]
    · intro b hb9
      have ee : ∀ j : Int, (if b = dst ∧ dp ≤ j ∧ j < dp + n then μ src (sp + (j - dp)) else μ b j) = μ b j := fun j => if_neg (fun q => hb9 q.1)
      cases hTb : q_T b with
      | none => rfl
      | some sh =>
        have es : ∀ (j : Nat) (sk : QK), q_sv (fun b j => if b = dst ∧ dp ≤ j ∧ j < dp + n then μ src (sp + (j - dp)) else μ b j) b j sk = q_sv μ b j sk := by
          intro j sk
          unfold q_sv
          split <;> simp only [ee]
        have ea : ∀ t, q_arr ad (fun b j => if b = dst ∧ dp ≤ j ∧ j < dp + n then μ src (sp + (j - dp)) else μ b j) b t = q_arr ad μ b t := by
          intro t
          unfold q_arr
          split <;> simp only [ee]
        rcases sh with ⟨ci, ks⟩ | ⟨t, k⟩
        · simp only [q_ent, es]
        · simp only [q_ent, ea]
end QAC

