/-! the class: makeTiles -/
abbrev c_ti (x y : Int) : Int := y / 4 * 3 + x / 4
/-- a cell of these tiles -/
abbrev c_in (w h tiles x y : Int) : Prop := m_in w h x y ∧ q_bit tiles (c_ti x y).toNat = true
def c_wm (μ : QM) (P board w h : Int) : Prop := q_pl P ∧ μ 20 5 = P ∧ m_dim w h ∧ μ 1 0 = w ∧ μ 1 1 = h ∧ c_mr μ (P + 3 + board) board w h ∧ c_sd μ ∧ (∀ i : Int, 0 ≤ i → i < 10 → c_gp μ (24 + i) w h)
abbrev c_wh (μ : QM) (r : Int) : Prop := μ r 2 = 7 ∨ μ r 2 = 11 ∨ μ r 2 = 12
def sp_X9_makeTiles : QP := fun ra μ K => match ra with
  | [.inl tiles, .inl board, .inr (.inr this)] => this = 20 ∧ (0 ≤ board ∧ board < 10) ∧ ∃ P w h : Int, c_wm μ P board w h ∧ m_sub w h tiles ∧ q_mk (μ 21 board) ∧ (tiles = 0 → K none μ) ∧ (¬ tiles = 0 → ∀ ν : QM, (∀ c j : Int, ¬ c = 35 → ¬ c = 37 → ¬ c = 38 → ¬ c = 24 + board → ¬ (c = 21 ∧ j = board) → ¬ (c = 20 ∧ j = 6) → ν c j = μ c j) → ν 21 board = q_or (μ 21 board) tiles → ν 20 6 = μ 20 6 + c_bc tiles 9 → c_gp ν (24 + board) w h → (c_wh μ (P + 3 + board) → μ 21 board = 0 → ∀ x y : Int, m_in w h x y → ν (24 + board) (c_p x y) = c_V μ (P + 3 + board) w h x y) → (c_wh μ (P + 3 + board) → ¬ μ 21 board = 0 → ∀ j : Int, ν (24 + board) j = μ (24 + board) j) → (¬ c_wh μ (P + 3 + board) → (∀ x y : Int, c_in w h tiles x y → ν (24 + board) (c_p x y) = c_V μ (P + 3 + board) w h x y) ∧ ∀ x y : Int, m_in w h x y → ¬ c_in w h tiles x y → ν (24 + board) (c_p x y) = μ (24 + board) (c_p x y)) → K none ν)
  | _ => False
theorem sp_X9_makeTiles_e (this board tiles : Int) (μ : QM) (K : Option QV → QM → Prop) : sp_X9_makeTiles [.inl tiles, .inl board, .inr (.inr this)] μ K = (this = 20 ∧ (0 ≤ board ∧ board < 10) ∧ ∃ P w h : Int, c_wm μ P board w h ∧ m_sub w h tiles ∧ q_mk (μ 21 board) ∧ (tiles = 0 → K none μ) ∧ (¬ tiles = 0 → ∀ ν : QM, (∀ c j : Int, ¬ c = 35 → ¬ c = 37 → ¬ c = 38 → ¬ c = 24 + board → ¬ (c = 21 ∧ j = board) → ¬ (c = 20 ∧ j = 6) → ν c j = μ c j) → ν 21 board = q_or (μ 21 board) tiles → ν 20 6 = μ 20 6 + c_bc tiles 9 → c_gp ν (24 + board) w h → (c_wh μ (P + 3 + board) → μ 21 board = 0 → ∀ x y : Int, m_in w h x y → ν (24 + board) (c_p x y) = c_V μ (P + 3 + board) w h x y) → (c_wh μ (P + 3 + board) → ¬ μ 21 board = 0 → ∀ j : Int, ν (24 + board) j = μ (24 + board) j) → (¬ c_wh μ (P + 3 + board) → (∀ x y : Int, c_in w h tiles x y → ν (24 + board) (c_p x y) = c_V μ (P + 3 + board) w h x y) ∧ ∀ x y : Int, m_in w h x y → ¬ c_in w h tiles x y → ν (24 + board) (c_p x y) = μ (24 + board) (c_p x y)) → K none ν)) := propext Iff.rfl
theorem sp_X9_makeTiles_i {ra : List QV} {μ : QM} {K : Option QV → QM → Prop} (h : sp_X9_makeTiles ra μ K) : ∃ this board tiles : Int, ra = [.inl tiles, .inl board, .inr (.inr this)] ∧ (this = 20 ∧ (0 ≤ board ∧ board < 10) ∧ ∃ P w h : Int, c_wm μ P board w h ∧ m_sub w h tiles ∧ q_mk (μ 21 board) ∧ (tiles = 0 → K none μ) ∧ (¬ tiles = 0 → ∀ ν : QM, (∀ c j : Int, ¬ c = 35 → ¬ c = 37 → ¬ c = 38 → ¬ c = 24 + board → ¬ (c = 21 ∧ j = board) → ¬ (c = 20 ∧ j = 6) → ν c j = μ c j) → ν 21 board = q_or (μ 21 board) tiles → ν 20 6 = μ 20 6 + c_bc tiles 9 → c_gp ν (24 + board) w h → (c_wh μ (P + 3 + board) → μ 21 board = 0 → ∀ x y : Int, m_in w h x y → ν (24 + board) (c_p x y) = c_V μ (P + 3 + board) w h x y) → (c_wh μ (P + 3 + board) → ¬ μ 21 board = 0 → ∀ j : Int, ν (24 + board) j = μ (24 + board) j) → (¬ c_wh μ (P + 3 + board) → (∀ x y : Int, c_in w h tiles x y → ν (24 + board) (c_p x y) = c_V μ (P + 3 + board) w h x y) ∧ ∀ x y : Int, m_in w h x y → ¬ c_in w h tiles x y → ν (24 + board) (c_p x y) = μ (24 + board) (c_p x y)) → K none ν)) := by
  unfold sp_X9_makeTiles at h
  split at h
  · exact ⟨_, _, _, rfl, h⟩
  · exact h.elim
def rm_X9_makeTiles : Room := { frames := 4, cells := 0, slots := 0, locals := 99 }
def G_X9_makeTiles : Nat → Nat × QP := fun i => match i with
  | 99 => (1, sp_X4_isWhole)
  | 111 => (3, sp_X1_makeWhole)
  | 115 => (4, sp_X1_makeTile)
  | 50 => (1, sp_J6_bitCount_0f7a4)
  | _ => (0, fun _ _ _ => False)
theorem G_X9_makeTiles_99 : G_X9_makeTiles 99 = (1, sp_X4_isWhole) := id rfl
theorem G_X9_makeTiles_111 : G_X9_makeTiles 111 = (3, sp_X1_makeWhole) := id rfl
theorem G_X9_makeTiles_115 : G_X9_makeTiles 115 = (4, sp_X1_makeTile) := id rfl
theorem G_X9_makeTiles_50 : G_X9_makeTiles 50 = (1, sp_J6_bitCount_0f7a4) := id rfl
def L2_X9_makeTiles : List (Nat × Option (List QE)) := [(0, some b_X9_makeTiles_0), (4, some b_X9_makeTiles_4), (5, some b_X9_makeTiles_5), (22, some b_X9_makeTiles_22), (31, some b_X9_makeTiles_31), (48, some b_X9_makeTiles_48), (51, none), (58, some b_X9_makeTiles_58), (67, some b_X9_makeTiles_67), (83, some b_X9_makeTiles_83), (89, none)]
def s2_X9_makeTiles : Nat → Option (List QE) := q_look L2_X9_makeTiles
theorem s2_X9_makeTiles_0 : s2_X9_makeTiles 0 = some b_X9_makeTiles_0 := id rfl
theorem s2_X9_makeTiles_4 : s2_X9_makeTiles 4 = some b_X9_makeTiles_4 := id rfl
theorem s2_X9_makeTiles_5 : s2_X9_makeTiles 5 = some b_X9_makeTiles_5 := id rfl
theorem s2_X9_makeTiles_22 : s2_X9_makeTiles 22 = some b_X9_makeTiles_22 := id rfl
theorem s2_X9_makeTiles_31 : s2_X9_makeTiles 31 = some b_X9_makeTiles_31 := id rfl
theorem s2_X9_makeTiles_48 : s2_X9_makeTiles 48 = some b_X9_makeTiles_48 := id rfl
theorem s2_X9_makeTiles_51 : s2_X9_makeTiles 51 = none := id rfl
theorem s2_X9_makeTiles_58 : s2_X9_makeTiles 58 = some b_X9_makeTiles_58 := id rfl
theorem s2_X9_makeTiles_67 : s2_X9_makeTiles 67 = some b_X9_makeTiles_67 := id rfl
theorem s2_X9_makeTiles_83 : s2_X9_makeTiles 83 = some b_X9_makeTiles_83 := id rfl
theorem s2_X9_makeTiles_89 : s2_X9_makeTiles 89 = none := id rfl
theorem o2_X9_makeTiles : q_skok cX9_makeTiles 5 u_X9_makeTiles L2_X9_makeTiles = true := by decide +kernel
theorem o2_X9_makeTiles_89 : q_ok cX9_makeTiles 5 u_X9_makeTiles 89 b_X9_makeTiles_89 = true := by decide +kernel
theorem mk_89 {Rt : Option QV → QM → Prop} {S : Nat → QL → List QV → QM → Prop} (hR : q_Rule cX9_makeTiles 5 u_X9_makeTiles fl_X9 ld_X9 G_X9_makeTiles q_T 4 s2_X9_makeTiles Rt S) {ν : QM} {board tiles : Int} {l3 l4 : Option QV} (hB : 0 ≤ board ∧ board < 10) (ht : q_mk tiles) (hk : Rt none (q_up (q_up ν 21 board (q_or (ν 21 board) tiles)) 20 6 (ν 20 6 + c_bc tiles 9))) : S 89 [some (.inr (.inr 20)), some (.inl board), some (.inl tiles), l3, l4] [] ν := by
  refine hR 60 b_X9_makeTiles_89 89 _ _ _ o2_X9_makeTiles_89 ?_
  simp only [v_opt_n, v_opt_s, v_nil, v_iconst, v_bipush, v_sipush, v_lconst0, v_lconst1, v_ldc, v_ldcw, v_ldc2, v_iload0, v_iload1, v_iload2, v_iload3, v_iload, v_lload0, v_lload1, v_lload2, v_lload3, v_lload, v_aload0, v_aload1, v_aload2, v_aload3, v_aload, v_istore0, v_istore1, v_istore2, v_istore3, v_istore, v_lstore0, v_lstore1, v_lstore2, v_lstore3, v_lstore, v_astore0, v_astore1, v_astore2, v_astore3, v_astore, v_iinc, v_iadd, v_isub, v_imul, v_iand, v_ior, v_ixor, v_ishl, v_ishr, v_iushr, v_ineg, v_idiv, v_irem, v_ladd, v_lsub, v_lmul, v_lcmp, v_i2l, v_l2i, v_i2c, v_dup, v_dup2, v_if_eq, v_if_ne, v_if_lt, v_if_ge, v_if_gt, v_if_le, v_ic_eq, v_ic_ne, v_ic_lt, v_ic_ge, v_ic_gt, v_ic_le, v_goto, v_tsw, v_lsw, v_ireturn, v_areturn, v_return, v_iaload, v_laload, v_baload, v_caload, v_aaload, v_iastore, v_lastore, v_bastore, v_castore, v_alen, v_invvi, v_invst, v_invsp, e_int, e_lng, e_ref, e_lg0, e_lg1, e_lg2, e_lg3, e_lg4, e_lg5, e_lg6, e_lg7, e_lg8, e_lg9, e_lg10, e_lg11, e_lg12, e_lg13, e_clrI, e_clrJ, e_clrP, e_clrN, e_s0, e_s1, e_s2, e_s3, e_s4, e_s5, e_s6, e_s7, e_s8, e_s9, e_s10, e_s11, e_s12, e_s13, e_t0, e_t1, e_t2, e_t3, e_t4, e_t5, e_t6, e_t7, e_t8, e_t9, e_t10, e_t11, e_t12, e_t13, e_fd, e_kk, e_k0, e_k1, e_k2, e_k3, e_k4, e_k5, e_k6, e_k7, e_k8, e_k9, e_sv0, e_sv1, e_sv2, e_sv3, e_svc, e_pf0, e_pf1, e_pf2, e_pf3, e_ar, e_aa, e_al, e_sw1, e_sw2, e_ct0, e_ct1, e_ct2, e_cat0, e_cat1, e_rk0, e_rk1, e_rk2, e_inv0, e_inv1, e_inv2, e_inv3, e_inv4, e_inv5, e_inv6, e_o0, e_o1, e_cl, e_cle, e_cg, e_cge, e_ce, e_cr1, e_cr2, e_r, e_R, e_up, Int.cast_ofNat_Int, u_app, false_and, and_false, e_b0, e_b1, e_bn, e_bl, e_bu, Int.reduceLE, Int.reduceLT, Int.reduceEq, Int.reduceNeg, Int.reduceAdd, Int.reduceSub, Int.reduceMul, Nat.reduceLeDiff, Nat.reduceLT, Nat.reduceAdd, Nat.reduceEqDiff, true_and, and_true, true_or, or_true, false_or, or_false, forall_const, not_true_eq_false, not_false_eq_true, true_implies, false_implies, implies_true, and_self, zero_ne_one, one_ne_zero, eq_self, reduceIte, v_getf, v_putf, s2_X9_makeTiles_0, b_X9_makeTiles_0, s2_X9_makeTiles_4, b_X9_makeTiles_4, s2_X9_makeTiles_5, b_X9_makeTiles_5, s2_X9_makeTiles_22, b_X9_makeTiles_22, s2_X9_makeTiles_31, b_X9_makeTiles_31, s2_X9_makeTiles_48, b_X9_makeTiles_48, s2_X9_makeTiles_51, b_X9_makeTiles_51, s2_X9_makeTiles_58, b_X9_makeTiles_58, s2_X9_makeTiles_67, b_X9_makeTiles_67, s2_X9_makeTiles_83, b_X9_makeTiles_83, s2_X9_makeTiles_89, b_X9_makeTiles_89, fl_X9_27, T_20, fl_X9_67, fl_X9_9, fl_X9_36, fl_X9_20, fl_X9_119, G_X9_makeTiles_99, sp_X4_isWhole_e, G_X9_makeTiles_111, sp_X1_makeWhole_e, G_X9_makeTiles_115, sp_X1_makeTile_e, G_X9_makeTiles_50, sp_J6_bitCount_0f7a4_e, T_21]
  exact ⟨hB.1, hB.2, hB.1, hB.2, ht, hk⟩
/-- tiles made as far as t -/
def mk_in (μ : QM) (r board w h tiles t : Int) (ν : QM) : Prop := (∀ c j : Int, ¬ c = 35 → ¬ c = 24 + board → ν c j = μ c j) ∧ (∀ x y : Int, c_in w h tiles x y → c_ti x y < t → ν (24 + board) (c_p x y) = c_F μ r w h x y) ∧ (∀ j : Int, (∀ x y : Int, c_in w h tiles x y → c_ti x y < t → ¬ j = c_p x y) → ν (24 + board) j = μ (24 + board) j)
theorem c_ti_e (x y : Int) : c_ti x y = y / 4 * 3 + x / 4 := rfl
theorem mk_51 {Rt : Option QV → QM → Prop} {S : Nat → QL → List QV → QM → Prop} (hR : q_Rule cX9_makeTiles 5 u_X9_makeTiles fl_X9 ld_X9 G_X9_makeTiles q_T 4 s2_X9_makeTiles Rt S) {μ : QM} {r board w h tiles : Int} (hr : q_rc r) (hB : 0 ≤ board ∧ board < 10) (hd : m_dim w h) (ew : μ 1 0 = w) (eh : μ 1 1 = h) (hm : c_mr μ r board w h) (hkd : ¬ c_wh μ r) (ht : m_sub w h tiles) (hk : ∀ (ν : QM) (l4 : Option QV), mk_in μ r board w h tiles 9 ν → S 89 [some (.inr (.inr 20)), some (.inl board), some (.inl tiles), some (.inr (.inr r)), l4] [] ν) : ∀ (d : Nat) (t : Int) (ν : QM), t + d = 9 → 0 ≤ t → mk_in μ r board w h tiles t ν → S 51 [some (.inr (.inr 20)), some (.inl board), some (.inl tiles), some (.inr (.inr r)), some (.inl t)] [] ν := by
  intro d
  have h0 : 0 ≤ r := by omega
  induction d with
  | zero =>
    intro t ν h1 h2 hi
    obtain rfl : t = 9 := by omega
    refine hR 60 b_X9_makeTiles_51 51 _ _ _ o_X9_makeTiles_51 ?_
    simp only [v_opt_n, v_opt_s, v_nil, v_iconst, v_bipush, v_sipush, v_lconst0, v_lconst1, v_ldc, v_ldcw, v_ldc2, v_iload0, v_iload1, v_iload2, v_iload3, v_iload, v_lload0, v_lload1, v_lload2, v_lload3, v_lload, v_aload0, v_aload1, v_aload2, v_aload3, v_aload, v_istore0, v_istore1, v_istore2, v_istore3, v_istore, v_lstore0, v_lstore1, v_lstore2, v_lstore3, v_lstore, v_astore0, v_astore1, v_astore2, v_astore3, v_astore, v_iinc, v_iadd, v_isub, v_imul, v_iand, v_ior, v_ixor, v_ishl, v_ishr, v_iushr, v_ineg, v_idiv, v_irem, v_ladd, v_lsub, v_lmul, v_lcmp, v_i2l, v_l2i, v_i2c, v_dup, v_dup2, v_if_eq, v_if_ne, v_if_lt, v_if_ge, v_if_gt, v_if_le, v_ic_eq, v_ic_ne, v_ic_lt, v_ic_ge, v_ic_gt, v_ic_le, v_goto, v_tsw, v_lsw, v_ireturn, v_areturn, v_return, v_iaload, v_laload, v_baload, v_caload, v_aaload, v_iastore, v_lastore, v_bastore, v_castore, v_alen, v_invvi, v_invst, v_invsp, e_int, e_lng, e_ref, e_lg0, e_lg1, e_lg2, e_lg3, e_lg4, e_lg5, e_lg6, e_lg7, e_lg8, e_lg9, e_lg10, e_lg11, e_lg12, e_lg13, e_clrI, e_clrJ, e_clrP, e_clrN, e_s0, e_s1, e_s2, e_s3, e_s4, e_s5, e_s6, e_s7, e_s8, e_s9, e_s10, e_s11, e_s12, e_s13, e_t0, e_t1, e_t2, e_t3, e_t4, e_t5, e_t6, e_t7, e_t8, e_t9, e_t10, e_t11, e_t12, e_t13, e_fd, e_kk, e_k0, e_k1, e_k2, e_k3, e_k4, e_k5, e_k6, e_k7, e_k8, e_k9, e_sv0, e_sv1, e_sv2, e_sv3, e_svc, e_pf0, e_pf1, e_pf2, e_pf3, e_ar, e_aa, e_al, e_sw1, e_sw2, e_ct0, e_ct1, e_ct2, e_cat0, e_cat1, e_rk0, e_rk1, e_rk2, e_inv0, e_inv1, e_inv2, e_inv3, e_inv4, e_inv5, e_inv6, e_o0, e_o1, e_cl, e_cle, e_cg, e_cge, e_ce, e_cr1, e_cr2, e_r, e_R, e_up, Int.cast_ofNat_Int, u_app, false_and, and_false, e_b0, e_b1, e_bn, e_bl, e_bu, Int.reduceLE, Int.reduceLT, Int.reduceEq, Int.reduceNeg, Int.reduceAdd, Int.reduceSub, Int.reduceMul, Nat.reduceLeDiff, Nat.reduceLT, Nat.reduceAdd, Nat.reduceEqDiff, true_and, and_true, true_or, or_true, false_or, or_false, forall_const, not_true_eq_false, not_false_eq_true, true_implies, false_implies, implies_true, and_self, zero_ne_one, one_ne_zero, eq_self, reduceIte, v_getf, v_putf, s2_X9_makeTiles_0, b_X9_makeTiles_0, s2_X9_makeTiles_4, b_X9_makeTiles_4, s2_X9_makeTiles_5, b_X9_makeTiles_5, s2_X9_makeTiles_22, b_X9_makeTiles_22, s2_X9_makeTiles_31, b_X9_makeTiles_31, s2_X9_makeTiles_48, b_X9_makeTiles_48, s2_X9_makeTiles_51, b_X9_makeTiles_51, s2_X9_makeTiles_58, b_X9_makeTiles_58, s2_X9_makeTiles_67, b_X9_makeTiles_67, s2_X9_makeTiles_83, b_X9_makeTiles_83, s2_X9_makeTiles_89, b_X9_makeTiles_89, fl_X9_27, T_20, fl_X9_67, fl_X9_9, fl_X9_36, fl_X9_20, fl_X9_119, G_X9_makeTiles_99, sp_X4_isWhole_e, G_X9_makeTiles_111, sp_X1_makeWhole_e, G_X9_makeTiles_115, sp_X1_makeTile_e, G_X9_makeTiles_50, sp_J6_bitCount_0f7a4_e]
    exact hk ν _ hi
  | succ d ih =>
    intro t ν h1 h2 hi
    obtain ⟨i1, i2, i3⟩ := id hi
    have e := bt_get (q_mk_nn ht.1) (q_mk_le ht.1) h2 (show t < 32 by omega)
    have f9 : ∀ c j : Int, ¬ c = 35 → ¬ c = 37 → ¬ c = 38 → ¬ c = 24 + board → ν c j = μ c j := fun c j n1 _ _ n4 => i1 c j n1 n4
    refine hR 60 b_X9_makeTiles_51 51 _ _ _ o_X9_makeTiles_51 ?_
    simp only [v_opt_n, v_opt_s, v_nil, v_iconst, v_bipush, v_sipush, v_lconst0, v_lconst1, v_ldc, v_ldcw, v_ldc2, v_iload0, v_iload1, v_iload2, v_iload3, v_iload, v_lload0, v_lload1, v_lload2, v_lload3, v_lload, v_aload0, v_aload1, v_aload2, v_aload3, v_aload, v_istore0, v_istore1, v_istore2, v_istore3, v_istore, v_lstore0, v_lstore1, v_lstore2, v_lstore3, v_lstore, v_astore0, v_astore1, v_astore2, v_astore3, v_astore, v_iinc, v_iadd, v_isub, v_imul, v_iand, v_ior, v_ixor, v_ishl, v_ishr, v_iushr, v_ineg, v_idiv, v_irem, v_ladd, v_lsub, v_lmul, v_lcmp, v_i2l, v_l2i, v_i2c, v_dup, v_dup2, v_if_eq, v_if_ne, v_if_lt, v_if_ge, v_if_gt, v_if_le, v_ic_eq, v_ic_ne, v_ic_lt, v_ic_ge, v_ic_gt, v_ic_le, v_goto, v_tsw, v_lsw, v_ireturn, v_areturn, v_return, v_iaload, v_laload, v_baload, v_caload, v_aaload, v_iastore, v_lastore, v_bastore, v_castore, v_alen, v_invvi, v_invst, v_invsp, e_int, e_lng, e_ref, e_lg0, e_lg1, e_lg2, e_lg3, e_lg4, e_lg5, e_lg6, e_lg7, e_lg8, e_lg9, e_lg10, e_lg11, e_lg12, e_lg13, e_clrI, e_clrJ, e_clrP, e_clrN, e_s0, e_s1, e_s2, e_s3, e_s4, e_s5, e_s6, e_s7, e_s8, e_s9, e_s10, e_s11, e_s12, e_s13, e_t0, e_t1, e_t2, e_t3, e_t4, e_t5, e_t6, e_t7, e_t8, e_t9, e_t10, e_t11, e_t12, e_t13, e_fd, e_kk, e_k0, e_k1, e_k2, e_k3, e_k4, e_k5, e_k6, e_k7, e_k8, e_k9, e_sv0, e_sv1, e_sv2, e_sv3, e_svc, e_pf0, e_pf1, e_pf2, e_pf3, e_ar, e_aa, e_al, e_sw1, e_sw2, e_ct0, e_ct1, e_ct2, e_cat0, e_cat1, e_rk0, e_rk1, e_rk2, e_inv0, e_inv1, e_inv2, e_inv3, e_inv4, e_inv5, e_inv6, e_o0, e_o1, e_cl, e_cle, e_cg, e_cge, e_ce, e_cr1, e_cr2, e_r, e_R, e_up, Int.cast_ofNat_Int, u_app, false_and, and_false, e_b0, e_b1, e_bn, e_bl, e_bu, Int.reduceLE, Int.reduceLT, Int.reduceEq, Int.reduceNeg, Int.reduceAdd, Int.reduceSub, Int.reduceMul, Nat.reduceLeDiff, Nat.reduceLT, Nat.reduceAdd, Nat.reduceEqDiff, true_and, and_true, true_or, or_true, false_or, or_false, forall_const, not_true_eq_false, not_false_eq_true, true_implies, false_implies, implies_true, and_self, zero_ne_one, one_ne_zero, eq_self, reduceIte, v_getf, v_putf, s2_X9_makeTiles_0, b_X9_makeTiles_0, s2_X9_makeTiles_4, b_X9_makeTiles_4, s2_X9_makeTiles_5, b_X9_makeTiles_5, s2_X9_makeTiles_22, b_X9_makeTiles_22, s2_X9_makeTiles_31, b_X9_makeTiles_31, s2_X9_makeTiles_48, b_X9_makeTiles_48, s2_X9_makeTiles_51, b_X9_makeTiles_51, s2_X9_makeTiles_58, b_X9_makeTiles_58, s2_X9_makeTiles_67, b_X9_makeTiles_67, s2_X9_makeTiles_83, b_X9_makeTiles_83, s2_X9_makeTiles_89, b_X9_makeTiles_89, fl_X9_27, T_20, fl_X9_67, fl_X9_9, fl_X9_36, fl_X9_20, fl_X9_119, G_X9_makeTiles_99, sp_X4_isWhole_e, G_X9_makeTiles_111, sp_X1_makeWhole_e, G_X9_makeTiles_115, sp_X1_makeTile_e, G_X9_makeTiles_50, sp_J6_bitCount_0f7a4_e, e, T_23]
    refine ⟨by omega, fun c => by omega, fun c => ⟨fun c1 => ih (t + 1) ν (by omega) (by omega) ⟨i1, fun x y hc hl => i2 x y hc ?_, fun j hj => i3 j (fun x y hc hl => hj x y hc (by omega))⟩, fun c1 => ?_⟩⟩
    · have : ¬ c_ti x y = t := fun q => c1 (by rw [← q]; exact hc.2)
      omega
    · have c1 := Classical.not_not.mp c1
      have htl := ht.2 t.toNat c1
      rw [show ((t.toNat : Nat) : Int) = t by omega] at htl
      have er : ν r 2 = μ r 2 := i1 r 2 (by omega) (by omega)
      refine ⟨by omega, by omega, by omega, by omega, hr, w, h, board, hd, (i1 1 0 (by omega) (by omega)).trans ew, (i1 1 1 (by omega) (by omega)).trans eh, htl, rfl, hB, c_mr_cg hr hB f9 hm, by rw [er]; omega, fun ν2 f2 g1 g2 => ih (t + 1) ν2 (by omega) (by omega) ⟨fun c j n1 n4 => (f2 c j n1 n4).trans (i1 c j n1 n4), fun x y hc hl => ?_, fun j hj => ?_⟩⟩
      · have ec := c_ti_e x y
        by_cases c5 : c_ti x y = t
        · rw [g1 x y ⟨hc.1, by omega, by omega⟩]
          exact c_F_cg hr hB hd hc.1 f9 hm (by omega)
        · have hne : ∀ x2 y2 : Int, c_ct t w h x2 y2 → ¬ c_p x y = c_p x2 y2 := fun x2 y2 q e9 => by
            obtain ⟨e1, e2⟩ := c_p_inj (y := y) (v := y2) (by omega) (by omega) e9
            have ec2 := c_ti_e x2 y2
            rw [← e1, ← e2] at q
            omega
          rw [g2 _ hne]
          exact i2 x y hc (by omega)
      · rw [g2 j (fun x y hc => by
          have ec := c_ti_e x y
          have ec2 : c_ti x y = t := by omega
          exact hj x y ⟨hc.1, by rw [ec2]; exact c1⟩ (by omega))]
        exact i3 j (fun x y hc hl => hj x y hc (by omega))
set_option maxRecDepth 100000 in
set_option maxRecDepth 100000 in
set_option maxHeartbeats 4000000 in
theorem B_X9_makeTiles : q_Body cX9_makeTiles 5 u_X9_makeTiles fl_X9 ld_X9 G_X9_makeTiles q_T 4 s2_X9_makeTiles sp_X9_makeTiles := by
  intro S Rt hR ra μ h
  obtain ⟨this, board, tiles, rfl, h⟩ := sp_X9_makeTiles_i h
  refine ⟨by simp [q_sl, q_ct], ?_⟩
  show S 0 [some (.inr (.inr this)), some (.inl board), some (.inl tiles), none, none] [] μ
  obtain ⟨rfl, hB, P, w, h9, ⟨hP, h5, hd, ew, eh, hm, hs, hg⟩, ht, hq, hk0, hk⟩ := h
  have hTp := T_plan hP
  have hTr := T_recs hP
  have hr : q_rc (P + 3 + board) := by omega
  have hmk := q_mk_nn ht.1
  have hml := q_mk_le ht.1
  have hqn := q_mk_nn hq
  have hql := q_mk_le hq
  have m1 := hm.1
  refine hR 60 [] 0 _ _ _ rfl ?_
  simp only [v_opt_n, v_opt_s, v_nil, v_iconst, v_bipush, v_sipush, v_lconst0, v_lconst1, v_ldc, v_ldcw, v_ldc2, v_iload0, v_iload1, v_iload2, v_iload3, v_iload, v_lload0, v_lload1, v_lload2, v_lload3, v_lload, v_aload0, v_aload1, v_aload2, v_aload3, v_aload, v_istore0, v_istore1, v_istore2, v_istore3, v_istore, v_lstore0, v_lstore1, v_lstore2, v_lstore3, v_lstore, v_astore0, v_astore1, v_astore2, v_astore3, v_astore, v_iinc, v_iadd, v_isub, v_imul, v_iand, v_ior, v_ixor, v_ishl, v_ishr, v_iushr, v_ineg, v_idiv, v_irem, v_ladd, v_lsub, v_lmul, v_lcmp, v_i2l, v_l2i, v_i2c, v_dup, v_dup2, v_if_eq, v_if_ne, v_if_lt, v_if_ge, v_if_gt, v_if_le, v_ic_eq, v_ic_ne, v_ic_lt, v_ic_ge, v_ic_gt, v_ic_le, v_goto, v_tsw, v_lsw, v_ireturn, v_areturn, v_return, v_iaload, v_laload, v_baload, v_caload, v_aaload, v_iastore, v_lastore, v_bastore, v_castore, v_alen, v_invvi, v_invst, v_invsp, e_int, e_lng, e_ref, e_lg0, e_lg1, e_lg2, e_lg3, e_lg4, e_lg5, e_lg6, e_lg7, e_lg8, e_lg9, e_lg10, e_lg11, e_lg12, e_lg13, e_clrI, e_clrJ, e_clrP, e_clrN, e_s0, e_s1, e_s2, e_s3, e_s4, e_s5, e_s6, e_s7, e_s8, e_s9, e_s10, e_s11, e_s12, e_s13, e_t0, e_t1, e_t2, e_t3, e_t4, e_t5, e_t6, e_t7, e_t8, e_t9, e_t10, e_t11, e_t12, e_t13, e_fd, e_kk, e_k0, e_k1, e_k2, e_k3, e_k4, e_k5, e_k6, e_k7, e_k8, e_k9, e_sv0, e_sv1, e_sv2, e_sv3, e_svc, e_pf0, e_pf1, e_pf2, e_pf3, e_ar, e_aa, e_al, e_sw1, e_sw2, e_ct0, e_ct1, e_ct2, e_cat0, e_cat1, e_rk0, e_rk1, e_rk2, e_inv0, e_inv1, e_inv2, e_inv3, e_inv4, e_inv5, e_inv6, e_o0, e_o1, e_cl, e_cle, e_cg, e_cge, e_ce, e_cr1, e_cr2, e_r, e_R, e_up, Int.cast_ofNat_Int, u_app, false_and, and_false, e_b0, e_b1, e_bn, e_bl, e_bu, Int.reduceLE, Int.reduceLT, Int.reduceEq, Int.reduceNeg, Int.reduceAdd, Int.reduceSub, Int.reduceMul, Nat.reduceLeDiff, Nat.reduceLT, Nat.reduceAdd, Nat.reduceEqDiff, true_and, and_true, true_or, or_true, false_or, or_false, forall_const, not_true_eq_false, not_false_eq_true, true_implies, false_implies, implies_true, and_self, zero_ne_one, one_ne_zero, eq_self, reduceIte, v_getf, v_putf, s2_X9_makeTiles_0, b_X9_makeTiles_0, s2_X9_makeTiles_4, b_X9_makeTiles_4, s2_X9_makeTiles_5, b_X9_makeTiles_5, s2_X9_makeTiles_22, b_X9_makeTiles_22, s2_X9_makeTiles_31, b_X9_makeTiles_31, s2_X9_makeTiles_48, b_X9_makeTiles_48, s2_X9_makeTiles_51, b_X9_makeTiles_51, s2_X9_makeTiles_58, b_X9_makeTiles_58, s2_X9_makeTiles_67, b_X9_makeTiles_67, s2_X9_makeTiles_83, b_X9_makeTiles_83, s2_X9_makeTiles_89, b_X9_makeTiles_89, fl_X9_27, T_20, fl_X9_67, fl_X9_9, fl_X9_36, fl_X9_20, fl_X9_119, G_X9_makeTiles_99, sp_X4_isWhole_e, G_X9_makeTiles_111, sp_X1_makeWhole_e, G_X9_makeTiles_115, sp_X1_makeTile_e, G_X9_makeTiles_50, sp_J6_bitCount_0f7a4_e, h5, hTp, hTr, T_21, T_23]
  refine ⟨by omega, fun hne => ?_, hk0⟩
  have hk := hk hne
  have fin : ∀ (ν : QM) (l4 : Option QV), (∀ c j : Int, ¬ c = 35 → ¬ c = 37 → ¬ c = 38 → ¬ c = 24 + board → ν c j = μ c j) → c_gp ν (24 + board) w h9 → (c_wh μ (P + 3 + board) → μ 21 board = 0 → ∀ x y : Int, m_in w h9 x y → ν (24 + board) (c_p x y) = c_V μ (P + 3 + board) w h9 x y) → (c_wh μ (P + 3 + board) → ¬ μ 21 board = 0 → ∀ j : Int, ν (24 + board) j = μ (24 + board) j) → (¬ c_wh μ (P + 3 + board) → (∀ x y : Int, c_in w h9 tiles x y → ν (24 + board) (c_p x y) = c_V μ (P + 3 + board) w h9 x y) ∧ ∀ x y : Int, m_in w h9 x y → ¬ c_in w h9 tiles x y → ν (24 + board) (c_p x y) = μ (24 + board) (c_p x y)) → S 89 [some (.inr (.inr 20)), some (.inl board), some (.inl tiles), some (.inr (.inr (P + 3 + board))), l4] [] ν := fun ν l4 f g1 g2 g3 g4 => by
    have eo : ∀ (x z j : Int), q_up (q_up ν 21 board x) 20 6 z (24 + board) j = ν (24 + board) j := fun x z j => by
      rw [u_app, if_neg (by omega), u_app, if_neg (by omega)]
    have e21 : ν 21 board = μ 21 board := f 21 board (by omega) (by omega) (by omega) (by omega)
    have e20 : ν 20 6 = μ 20 6 := f 20 6 (by omega) (by omega) (by omega) (by omega)
    refine mk_89 hR hB ht.1 (hk _ (fun c j n1 n2 n3 n4 n5 n6 => ?_) ?_ ?_ (fun u v u0 u1 v0 v1 hn => ?_) (fun q1 q2 x y hxy => ?_) (fun q1 q2 j => ?_) (fun q => ⟨fun x y hc => ?_, fun x y hxy hc => ?_⟩))
    · rw [u_app, if_neg n6, u_app, if_neg n5]
      exact f c j n1 n2 n3 n4
    · rw [u_app, if_neg (by omega), u_app, if_pos ⟨rfl, rfl⟩, e21]
    · rw [u_app, if_pos ⟨rfl, rfl⟩, e20]
    · rw [eo]
      exact g1 u v u0 u1 v0 v1 hn
    · rw [eo]
      exact g2 q1 q2 x y hxy
    · rw [eo]
      exact g3 q1 q2 j
    · rw [eo]
      exact (g4 q).1 x y hc
    · rw [eo]
      exact (g4 q).2 x y hxy hc
  refine ⟨hB.1, hB.2, by omega, by omega, by omega, hr, by omega, fun c => ?_, fun c => ⟨hB.1, hB.2, by omega, fun c1 => ?_, fun c1 => ⟨by omega, hB.1, hB.2, by omega, hr, hs, w, h9, board, hd, rfl, hB, hm, Classical.not_not.mp c, hg, fun ν f g1 g2 => ?_⟩⟩⟩
  · refine mk_51 hR hr hB hd ew eh hm c ht (fun ν l4 hi => ?_) 9 0 μ (by omega) (by omega) ⟨fun _ _ _ _ => rfl, fun x y hc hl => ?_, fun _ _ => rfl⟩
    · obtain ⟨i1, i2, i3⟩ := hi
      have t9 : ∀ x y : Int, m_in w h9 x y → c_ti x y < 9 := fun x y hxy => by
        have := c_ti_e x y
        omega
      have eV : ∀ x y : Int, c_V μ (P + 3 + board) w h9 x y = c_F μ (P + 3 + board) w h9 x y := fun x y => by
        unfold c_V m_val
        rw [if_neg (fun q => c (Or.inl q)), if_neg (fun q => c (Or.inr (Or.inr q)))]
      refine fin ν l4 (fun c j n1 _ _ n4 => i1 c j n1 n4) (fun u v u0 u1 v0 v1 hn => ?_) (fun q => absurd q c) (fun q => absurd q c) (fun _ => ⟨fun x y hc => ?_, fun x y hxy hc => ?_⟩)
      · rw [i3 _ (fun x y hc _ e => ?_)]
        · exact hg board hB.1 hB.2 u v u0 u1 v0 v1 hn
        · obtain ⟨e1, e2⟩ := c_p_inj (y := v) (v := y) ⟨u0, u1⟩ (by have := hc.1; omega) e
          rw [e1, e2] at hn
          exact hn hc.1
      · rw [eV]
        exact i2 x y hc (t9 x y hc.1)
      · refine i3 _ (fun x2 y2 hc2 _ e => ?_)
        obtain ⟨e1, e2⟩ := c_p_inj (y := y) (v := y2) (by omega) (by have := hc2.1; omega) e
        rw [e1, e2] at hc
        exact hc hc2
    · have := c_ti_e x y
      have := hc.1
      omega
  · exact fin μ none (fun _ _ _ _ _ _ => rfl) (hg board hB.1 hB.2) (fun _ q => absurd q c1) (fun _ _ _ => rfl) (fun q => absurd (Classical.not_not.mp c) q)
  · exact fin ν none f g1 (fun _ _ => g2) (fun _ q => absurd c1 q) (fun q => absurd (Classical.not_not.mp c) q)
set_option maxRecDepth 100000 in
theorem C_X9_makeTiles {l : Launch} {ad : Int → Nat} {D : va_G} {cy : Nat → ClassId} {Z : State → Prop} (hZ : q_Zg ad Z) : q_Ct l q_T q_N ad D cy Z yX9_makeTiles cX9_makeTiles 5 none rm_X9_makeTiles sp_X9_makeTiles := by
  obtain ⟨hf, hg, hld⟩ := q_chkS k_X9_makeTiles
  refine q_met (rk := 4) q_wokT (by decide) rfl hf hg hld rfl (q_skS L2_X9_makeTiles o2_X9_makeTiles) ?_ ?_ ?_ ?_ B_X9_makeTiles
  · intro i hi; exact absurd hi List.not_mem_nil
  · intro i hi
    have hi : i = 99 ∨ i = 111 ∨ i = 115 := by simpa [u_X9_makeTiles] using hi
    rcases hi with rfl | rfl | rfl
    · exact q_crV hZ.1 (C_X4_isWhole hZ) rv_X4_isWhole cm_X4_isWhole (by decide +kernel) (by decide +kernel) (by decide +kernel) (by decide +kernel) (by decide +kernel) ⟨rfl, rfl⟩ (by decide)
    · exact q_crV hZ.1 (C_X1_makeWhole hZ) rv_X1_makeWhole cm_X1_makeWhole (by decide +kernel) (by decide +kernel) (by decide +kernel) (by decide +kernel) (by decide +kernel) ⟨rfl, rfl⟩ (by decide)
    · exact q_crV hZ.1 (C_X1_makeTile hZ) rv_X1_makeTile cm_X1_makeTile (by decide +kernel) (by decide +kernel) (by decide +kernel) (by decide +kernel) (by decide +kernel) ⟨rfl, rfl⟩ (by decide)
  · intro i hi
    have hi : i = 50 := by simpa [u_X9_makeTiles] using hi
    rcases hi with rfl
    · exact q_crS hZ.1 (C_J6_bitCount_0f7a4 hZ) cm_J6_bitCount_0f7a4 (by decide +kernel) (by decide +kernel) (by decide +kernel) (by decide +kernel) ⟨rfl, rfl⟩ (by decide)
  · intro i hi; exact absurd hi List.not_mem_nil
theorem rv_X9_makeTiles : q_rcv q_T yX9_makeTiles.cls sp_X9_makeTiles := by
  intro ra μ K h
  obtain ⟨this, board, tiles, rfl, h⟩ := sp_X9_makeTiles_i h
  obtain rfl := h.1
  exact ⟨[.inl tiles, .inl board], 20, 9, _, _, rfl, T_20, rfl, rfl⟩
theorem cm_X9_makeTiles : Cond.code yX9_makeTiles cX9_makeTiles 5 none ∈ q_tb := by decide +kernel

