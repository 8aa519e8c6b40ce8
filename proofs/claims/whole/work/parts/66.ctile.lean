/-! the class: a tile -/
/-- a board's recipe, as the maker needs it -/
def c_mr (μ : QM) (r B w h : Int) : Prop := (0 ≤ μ r 2 ∧ μ r 2 ≤ 12) ∧ (μ r 2 = 0 → 0 ≤ μ r 4 ∧ μ r 4 ≤ 3) ∧ (μ r 2 = 10 → 1 ≤ μ r 4 ∧ μ r 4 ≤ 3) ∧ (μ r 2 = 10 ∨ μ r 2 = 11 → μ r 3 = 4 ∨ μ r 3 = 5 ∨ μ r 3 = 13 ∨ μ r 3 = 14) ∧ (∀ k : Int, 0 ≤ k → k < 3 → 0 ≤ μ (r + 10) k ∧ μ (r + 10) k < 10) ∧ (∀ k : Int, 0 ≤ k → k < m_mn (μ r 2) → μ (r + 10) k < B) ∧ (∀ k u v : Int, 0 ≤ k → k < m_mn (μ r 2) → m_in w h u v → m_vr (c_A μ (24 + μ (r + 10) k) u v))
/-- the value of a cell, but for way and flow -/
abbrev c_F (μ : QM) (r w h : Int) : Int → Int → Int := m_F w h (μ r 2) (μ r 3) (μ r 4) (fun x y => c_A μ (4 + μ r 4) x y) (c_A μ (24 + μ (r + 10) 0)) (c_A μ (24 + μ (r + 10) 1)) (c_A μ (24 + μ (r + 10) 2))
abbrev c_ct (tile w h x y : Int) : Prop := m_in w h x y ∧ x / 4 = tile % 3 ∧ y / 4 = tile / 3
abbrev c_p (x y : Int) : Int := (y + 1) * 14 + x + 1
def sp_X1_makeTile : QP := fun ra μ K => match ra with
  | [.inr (.inr out), .inl tile, .inr (.inr recipe), .inr (.inr this)] => this = 34 ∧ q_rc recipe ∧ ∃ w h B : Int, m_dim w h ∧ μ 1 0 = w ∧ μ 1 1 = h ∧ m_tl w h tile ∧ out = 24 + B ∧ (0 ≤ B ∧ B < 10) ∧ c_mr μ recipe B w h ∧ (¬ μ recipe 2 = 7 ∧ ¬ μ recipe 2 = 11 ∧ ¬ μ recipe 2 = 12) ∧ ∀ ν : QM, (∀ a j : Int, ¬ a = 35 → ¬ a = 24 + B → ν a j = μ a j) → (∀ x y : Int, c_ct tile w h x y → ν (24 + B) (c_p x y) = c_F μ recipe w h x y) → (∀ j : Int, (∀ x y : Int, c_ct tile w h x y → ¬ j = c_p x y) → ν (24 + B) j = μ (24 + B) j) → K none ν
  | _ => False
theorem sp_X1_makeTile_e (this recipe tile out : Int) (μ : QM) (K : Option QV → QM → Prop) : sp_X1_makeTile [.inr (.inr out), .inl tile, .inr (.inr recipe), .inr (.inr this)] μ K = (this = 34 ∧ q_rc recipe ∧ ∃ w h B : Int, m_dim w h ∧ μ 1 0 = w ∧ μ 1 1 = h ∧ m_tl w h tile ∧ out = 24 + B ∧ (0 ≤ B ∧ B < 10) ∧ c_mr μ recipe B w h ∧ (¬ μ recipe 2 = 7 ∧ ¬ μ recipe 2 = 11 ∧ ¬ μ recipe 2 = 12) ∧ ∀ ν : QM, (∀ a j : Int, ¬ a = 35 → ¬ a = 24 + B → ν a j = μ a j) → (∀ x y : Int, c_ct tile w h x y → ν (24 + B) (c_p x y) = c_F μ recipe w h x y) → (∀ j : Int, (∀ x y : Int, c_ct tile w h x y → ¬ j = c_p x y) → ν (24 + B) j = μ (24 + B) j) → K none ν) := propext Iff.rfl
theorem sp_X1_makeTile_i {ra : List QV} {μ : QM} {K : Option QV → QM → Prop} (h : sp_X1_makeTile ra μ K) : ∃ this recipe tile out : Int, ra = [.inr (.inr out), .inl tile, .inr (.inr recipe), .inr (.inr this)] ∧ (this = 34 ∧ q_rc recipe ∧ ∃ w h B : Int, m_dim w h ∧ μ 1 0 = w ∧ μ 1 1 = h ∧ m_tl w h tile ∧ out = 24 + B ∧ (0 ≤ B ∧ B < 10) ∧ c_mr μ recipe B w h ∧ (¬ μ recipe 2 = 7 ∧ ¬ μ recipe 2 = 11 ∧ ¬ μ recipe 2 = 12) ∧ ∀ ν : QM, (∀ a j : Int, ¬ a = 35 → ¬ a = 24 + B → ν a j = μ a j) → (∀ x y : Int, c_ct tile w h x y → ν (24 + B) (c_p x y) = c_F μ recipe w h x y) → (∀ j : Int, (∀ x y : Int, c_ct tile w h x y → ¬ j = c_p x y) → ν (24 + B) j = μ (24 + B) j) → K none ν) := by
  unfold sp_X1_makeTile at h
  split at h
  · exact ⟨_, _, _, _, rfl, h⟩
  · exact h.elim
def rm_X1_makeTile : Room := { frames := 3, cells := 0, slots := 0, locals := 71 }
def G_X1_makeTile : Nat → Nat × QP := fun i => match i with
  | 41 => (2, sp_X0_rightOf)
  | 47 => (2, sp_X0_topOf)
  | 50 => (2, sp_X0_bottomOf)
  | 53 => (2, sp_X0_leftOf)
  | 66 => (4, sp_X1_near)
  | 70 => (3, sp_X1_single)
  | 56 => (2, sp_X10_placeOf)
  | _ => (0, fun _ _ _ => False)
theorem G_X1_makeTile_41 : G_X1_makeTile 41 = (2, sp_X0_rightOf) := id rfl
theorem G_X1_makeTile_47 : G_X1_makeTile 47 = (2, sp_X0_topOf) := id rfl
theorem G_X1_makeTile_50 : G_X1_makeTile 50 = (2, sp_X0_bottomOf) := id rfl
theorem G_X1_makeTile_53 : G_X1_makeTile 53 = (2, sp_X0_leftOf) := id rfl
theorem G_X1_makeTile_66 : G_X1_makeTile 66 = (4, sp_X1_near) := id rfl
theorem G_X1_makeTile_70 : G_X1_makeTile 70 = (3, sp_X1_single) := id rfl
theorem G_X1_makeTile_56 : G_X1_makeTile 56 = (2, sp_X10_placeOf) := id rfl
def mt_in (μ : QM) (r B w h tile Y X : Int) (ν : QM) : Prop := (∀ a j : Int, ¬ a = 35 → ¬ a = 24 + B → ν a j = μ a j) ∧ (∀ x y : Int, c_ct tile w h x y → (y < Y ∨ (y = Y ∧ x < X)) → ν (24 + B) (c_p x y) = c_F μ r w h x y) ∧ (∀ j : Int, (∀ x y : Int, c_ct tile w h x y → ¬ j = c_p x y) → ν (24 + B) j = μ (24 + B) j)
theorem mt_val {μ ν : QM} {r B w h tile X Y v : Int} (hd : m_dim w h) (hct : c_ct tile w h X Y) (hi : mt_in μ r B w h tile Y X ν) (hv : v = c_F μ r w h X Y) : mt_in μ r B w h tile Y (X + 1) (q_up ν (24 + B) (c_p X Y) v) := by
  obtain ⟨i1, i2, i3⟩ := hi
  refine ⟨fun a j n1 n2 => ?_, fun x y hc hlt => ?_, fun j hj => ?_⟩
  · rw [u_app, if_neg (fun q => n2 q.1)]
    exact i1 a j n1 n2
  · rw [u_app]
    by_cases c : x = X ∧ y = Y
    · rw [if_pos ⟨rfl, by rw [c.1, c.2]⟩, hv, c.1, c.2]
    · have hc1 := hc.1
      have hc2 := hct.1
      rw [if_neg (fun q => c (by have q2 : (y + 1) * 14 + x + 1 = (Y + 1) * 14 + X + 1 := q.2; omega))]
      exact i2 x y hc (by omega)
  · rw [u_app, if_neg (fun q => hj X Y hct q.2)]
    exact i3 j hj
theorem mn_1 {k : Int} (h : ¬ k = 0) : 0 < m_mn k := by
  unfold m_mn
  rw [if_neg h]
  split
  · omega
  · split <;> omega
theorem mn_2 {k : Int} (h : ¬ k = 0) (h9 : ¬ k = 9) (h10 : ¬ k = 10) (h12 : ¬ k = 12) : 1 < m_mn k := by
  unfold m_mn
  rw [if_neg h]
  split
  · omega
  · rw [if_neg (by omega)]
    omega
theorem mn_3 {k : Int} (h : k = 8) : 2 < m_mn k := by
  rw [h]
  decide
theorem mt_sF {μ ν : QM} {r B w h X Y : Int} (hr : q_rc r) (hB : 0 ≤ B ∧ B < 10) (hm : c_mr μ r B w h) (hkd : ¬ μ r 2 = 7 ∧ ¬ μ r 2 = 11 ∧ ¬ μ r 2 = 12) (h10 : ¬ μ r 2 = 10) (i1 : ∀ a j : Int, ¬ a = 35 → ¬ a = 24 + B → ν a j = μ a j) : c_sF (μ r 2) (μ r 4) (ν (4 + μ r 4) (c_p X Y)) (ν (24 + ν (r + 10) 0) (c_p X Y)) (ν (24 + ν (r + 10) 1) (c_p X Y)) (ν (24 + ν (r + 10) 2) (c_p X Y)) = c_F μ r w h X Y := by
  obtain ⟨m1, m2, m3, m4, m5, m6, m7⟩ := hm
  have en : ∀ k : Int, ν (r + 10) k = μ (r + 10) k := fun k => i1 _ k (by omega) (by omega)
  have ev : ∀ k j : Int, 0 ≤ k → k < 3 → k < m_mn (μ r 2) → ν (24 + μ (r + 10) k) j = μ (24 + μ (r + 10) k) j := fun k j k0 k3 k1 => by
    have a1 := m5 k k0 k3
    have a2 := m6 k k0 k1
    exact i1 _ j (by omega) (by omega)
  rw [en 0, en 1, en 2]
  unfold c_sF c_F m_F
  by_cases k0 : μ r 2 = 0
  · obtain ⟨q1, q2⟩ := m2 k0
    rw [if_pos k0, if_pos k0, i1 _ _ (by omega) (by omega)]
  have e0 := ev 0 (c_p X Y) (by omega) (by omega) (mn_1 k0)
  rw [if_neg k0, if_neg k0, e0]
  by_cases k8 : μ r 2 = 8
  · have e1 := ev 1 (c_p X Y) (by omega) (by omega) (mn_2 k0 (by omega) (by omega) (by omega))
    have e2 := ev 2 (c_p X Y) (by omega) (by omega) (mn_3 k8)
    rw [if_pos k8, if_pos k8, e1, e2]
  rw [if_neg k8, if_neg k8]
  by_cases k9 : μ r 2 = 9
  · rw [if_pos k9, if_pos k9]
  have e1 := ev 1 (c_p X Y) (by omega) (by omega) (mn_2 k0 k9 h10 hkd.2.2)
  rw [if_neg k9, if_neg k9, if_neg h10, if_neg hkd.2.1, e1]
set_option maxRecDepth 100000 in
theorem mt_47 {Rt : Option QV → QM → Prop} {S : Nat → QL → List QV → QM → Prop} (hR : q_Rule cX1_makeTile 8 u_X1_makeTile fl_X1 ld_X1 G_X1_makeTile q_T 4 s_X1_makeTile Rt S) {μ : QM} {r B w h tile right top Y : Int} (hr : q_rc r) (hd : m_dim w h) (ew : μ 1 0 = w) (eh : μ 1 1 = h) (htl : m_tl w h tile) (hB : 0 ≤ B ∧ B < 10) (hmr : c_mr μ r B w h) (hkd : ¬ μ r 2 = 7 ∧ ¬ μ r 2 = 11 ∧ ¬ μ r 2 = 12) (hright : right ≤ w ∧ right ≤ tile % 3 * 4 + 4) (hY : tile / 3 * 4 ≤ Y ∧ Y < h ∧ Y < tile / 3 * 4 + 4) (hk : ∀ (ν : QM) (l7 : Option QV), mt_in μ r B w h tile Y right ν → S 30 [some (.inr (.inr 34)), some (.inr (.inr r)), some (.inl tile), some (.inr (.inr (24 + B))), some (.inl right), some (.inl top), some (.inl (Y + 1)), l7] [] ν) : ∀ (d : Nat) (X : Int) (ν : QM), tile % 3 * 4 ≤ X → X + d = right → mt_in μ r B w h tile Y X ν → S 47 [some (.inr (.inr 34)), some (.inr (.inr r)), some (.inl tile), some (.inr (.inr (24 + B))), some (.inl right), some (.inl top), some (.inl Y), some (.inl X)] [] ν := by
  intro d
  have hT := T_rec hr
  have h0 : 0 ≤ r := by omega
  have tv := T_val hB.1 hB.2
  obtain ⟨m1, m2, m3, m4, m5, m6, m7⟩ := id hmr
  induction d with
  | zero =>
    intro X ν h1 h2 hi
    obtain rfl : X = right := by omega
    refine hR 60 b_X1_makeTile_47 47 _ _ _ o_X1_makeTile_47 ?_
    simp only [v_opt_n, v_opt_s, v_nil, v_iconst, v_bipush, v_sipush, v_lconst0, v_lconst1, v_ldc, v_ldcw, v_ldc2, v_iload0, v_iload1, v_iload2, v_iload3, v_iload, v_lload0, v_lload1, v_lload2, v_lload3, v_lload, v_aload0, v_aload1, v_aload2, v_aload3, v_aload, v_istore0, v_istore1, v_istore2, v_istore3, v_istore, v_lstore0, v_lstore1, v_lstore2, v_lstore3, v_lstore, v_astore0, v_astore1, v_astore2, v_astore3, v_astore, v_iinc, v_iadd, v_isub, v_imul, v_iand, v_ior, v_ixor, v_ishl, v_ishr, v_iushr, v_ineg, v_idiv, v_irem, v_ladd, v_lsub, v_lmul, v_lcmp, v_i2l, v_l2i, v_i2c, v_dup, v_dup2, v_if_eq, v_if_ne, v_if_lt, v_if_ge, v_if_gt, v_if_le, v_ic_eq, v_ic_ne, v_ic_lt, v_ic_ge, v_ic_gt, v_ic_le, v_goto, v_tsw, v_lsw, v_ireturn, v_areturn, v_return, v_iaload, v_laload, v_baload, v_caload, v_aaload, v_iastore, v_lastore, v_bastore, v_castore, v_alen, v_invvi, v_invst, v_invsp, e_int, e_lng, e_ref, e_lg0, e_lg1, e_lg2, e_lg3, e_lg4, e_lg5, e_lg6, e_lg7, e_lg8, e_lg9, e_lg10, e_lg11, e_lg12, e_lg13, e_clrI, e_clrJ, e_clrP, e_clrN, e_s0, e_s1, e_s2, e_s3, e_s4, e_s5, e_s6, e_s7, e_s8, e_s9, e_s10, e_s11, e_s12, e_s13, e_t0, e_t1, e_t2, e_t3, e_t4, e_t5, e_t6, e_t7, e_t8, e_t9, e_t10, e_t11, e_t12, e_t13, e_fd, e_kk, e_k0, e_k1, e_k2, e_k3, e_k4, e_k5, e_k6, e_k7, e_k8, e_k9, e_sv0, e_sv1, e_sv2, e_sv3, e_svc, e_pf0, e_pf1, e_pf2, e_pf3, e_ar, e_aa, e_al, e_sw1, e_sw2, e_ct0, e_ct1, e_ct2, e_cat0, e_cat1, e_rk0, e_rk1, e_rk2, e_inv0, e_inv1, e_inv2, e_inv3, e_inv4, e_inv5, e_inv6, e_o0, e_o1, e_cl, e_cle, e_cg, e_cge, e_ce, e_cr1, e_cr2, e_r, e_R, e_up, Int.cast_ofNat_Int, u_app, false_and, and_false, e_b0, e_b1, e_bn, e_bl, e_bu, Int.reduceLE, Int.reduceLT, Int.reduceEq, Int.reduceNeg, Int.reduceAdd, Int.reduceSub, Int.reduceMul, Nat.reduceLeDiff, Nat.reduceLT, Nat.reduceAdd, Nat.reduceEqDiff, true_and, and_true, true_or, or_true, false_or, or_false, forall_const, not_true_eq_false, not_false_eq_true, true_implies, false_implies, implies_true, and_self, zero_ne_one, one_ne_zero, eq_self, reduceIte, v_getf, v_putf, s_X1_makeTile_0, b_X1_makeTile_0, s_X1_makeTile_30, b_X1_makeTile_30, s_X1_makeTile_37, b_X1_makeTile_37, s_X1_makeTile_47, b_X1_makeTile_47, s_X1_makeTile_54, b_X1_makeTile_54, s_X1_makeTile_71, b_X1_makeTile_71, s_X1_makeTile_83, b_X1_makeTile_83, s_X1_makeTile_95, b_X1_makeTile_95, s_X1_makeTile_102, b_X1_makeTile_102, s_X1_makeTile_108, b_X1_makeTile_108, fl_X1_29, T_34, fl_X1_60, G_X1_makeTile_41, sp_X0_rightOf_e, G_X1_makeTile_47, sp_X0_topOf_e, G_X1_makeTile_50, sp_X0_bottomOf_e, G_X1_makeTile_53, sp_X0_leftOf_e, G_X1_makeTile_66, sp_X1_near_e, G_X1_makeTile_70, sp_X1_single_e, G_X1_makeTile_56, sp_X10_placeOf_e]
    exact ⟨by omega, fun _ => hk ν _ hi, fun c => absurd (Int.le_refl _) c⟩
  | succ d ih =>
    intro X ν h1 h2 hi
    obtain ⟨i1, i2, i3⟩ := id hi
    have er : ∀ j : Int, ν r j = μ r j := fun j => i1 r j (by omega) (by omega)
    have hct : c_ct tile w h X Y := by omega
    refine hR 60 b_X1_makeTile_47 47 _ _ _ o_X1_makeTile_47 ?_
    simp only [v_opt_n, v_opt_s, v_nil, v_iconst, v_bipush, v_sipush, v_lconst0, v_lconst1, v_ldc, v_ldcw, v_ldc2, v_iload0, v_iload1, v_iload2, v_iload3, v_iload, v_lload0, v_lload1, v_lload2, v_lload3, v_lload, v_aload0, v_aload1, v_aload2, v_aload3, v_aload, v_istore0, v_istore1, v_istore2, v_istore3, v_istore, v_lstore0, v_lstore1, v_lstore2, v_lstore3, v_lstore, v_astore0, v_astore1, v_astore2, v_astore3, v_astore, v_iinc, v_iadd, v_isub, v_imul, v_iand, v_ior, v_ixor, v_ishl, v_ishr, v_iushr, v_ineg, v_idiv, v_irem, v_ladd, v_lsub, v_lmul, v_lcmp, v_i2l, v_l2i, v_i2c, v_dup, v_dup2, v_if_eq, v_if_ne, v_if_lt, v_if_ge, v_if_gt, v_if_le, v_ic_eq, v_ic_ne, v_ic_lt, v_ic_ge, v_ic_gt, v_ic_le, v_goto, v_tsw, v_lsw, v_ireturn, v_areturn, v_return, v_iaload, v_laload, v_baload, v_caload, v_aaload, v_iastore, v_lastore, v_bastore, v_castore, v_alen, v_invvi, v_invst, v_invsp, e_int, e_lng, e_ref, e_lg0, e_lg1, e_lg2, e_lg3, e_lg4, e_lg5, e_lg6, e_lg7, e_lg8, e_lg9, e_lg10, e_lg11, e_lg12, e_lg13, e_clrI, e_clrJ, e_clrP, e_clrN, e_s0, e_s1, e_s2, e_s3, e_s4, e_s5, e_s6, e_s7, e_s8, e_s9, e_s10, e_s11, e_s12, e_s13, e_t0, e_t1, e_t2, e_t3, e_t4, e_t5, e_t6, e_t7, e_t8, e_t9, e_t10, e_t11, e_t12, e_t13, e_fd, e_kk, e_k0, e_k1, e_k2, e_k3, e_k4, e_k5, e_k6, e_k7, e_k8, e_k9, e_sv0, e_sv1, e_sv2, e_sv3, e_svc, e_pf0, e_pf1, e_pf2, e_pf3, e_ar, e_aa, e_al, e_sw1, e_sw2, e_ct0, e_ct1, e_ct2, e_cat0, e_cat1, e_rk0, e_rk1, e_rk2, e_inv0, e_inv1, e_inv2, e_inv3, e_inv4, e_inv5, e_inv6, e_o0, e_o1, e_cl, e_cle, e_cg, e_cge, e_ce, e_cr1, e_cr2, e_r, e_R, e_up, Int.cast_ofNat_Int, u_app, false_and, and_false, e_b0, e_b1, e_bn, e_bl, e_bu, Int.reduceLE, Int.reduceLT, Int.reduceEq, Int.reduceNeg, Int.reduceAdd, Int.reduceSub, Int.reduceMul, Nat.reduceLeDiff, Nat.reduceLT, Nat.reduceAdd, Nat.reduceEqDiff, true_and, and_true, true_or, or_true, false_or, or_false, forall_const, not_true_eq_false, not_false_eq_true, true_implies, false_implies, implies_true, and_self, zero_ne_one, one_ne_zero, eq_self, reduceIte, v_getf, v_putf, s_X1_makeTile_0, b_X1_makeTile_0, s_X1_makeTile_30, b_X1_makeTile_30, s_X1_makeTile_37, b_X1_makeTile_37, s_X1_makeTile_47, b_X1_makeTile_47, s_X1_makeTile_54, b_X1_makeTile_54, s_X1_makeTile_71, b_X1_makeTile_71, s_X1_makeTile_83, b_X1_makeTile_83, s_X1_makeTile_95, b_X1_makeTile_95, s_X1_makeTile_102, b_X1_makeTile_102, s_X1_makeTile_108, b_X1_makeTile_108, fl_X1_29, T_34, fl_X1_60, G_X1_makeTile_41, sp_X0_rightOf_e, G_X1_makeTile_47, sp_X0_topOf_e, G_X1_makeTile_50, sp_X0_bottomOf_e, G_X1_makeTile_53, sp_X0_leftOf_e, G_X1_makeTile_66, sp_X1_near_e, G_X1_makeTile_70, sp_X1_single_e, G_X1_makeTile_56, sp_X10_placeOf_e, hT, tv, er]
    have en : ∀ k : Int, ν (r + 10) k = μ (r + 10) k := fun k => i1 _ k (by omega) (by omega)
    have ev : ∀ k j : Int, 0 ≤ k → k < 3 → k < m_mn (μ r 2) → ν (24 + μ (r + 10) k) j = μ (24 + μ (r + 10) k) j := fun k j k0 k3 k1 => by
      have a1 := m5 k k0 k3
      have a2 := m6 k k0 k1
      exact i1 _ j (by omega) (by omega)
    have hmn := m_mn_b (μ r 2)
    refine ⟨by omega, fun c => by omega, fun c => ⟨by omega, h0, by omega, fun k10 => ⟨h0, hr, by omega, by omega, m2, fun k k0 k1 => by rw [en]; exact m5 k k0 k1, fun k k0 k1 => ?_, by omega, by omega, ?_⟩, fun k10 => ⟨h0, hr, w, h, hd, ?_, ?_, hct.1, m3 k10, m4 (Or.inl k10), ?_, ?_, fun ν1 f1 => ⟨by omega, by omega, ?_⟩⟩⟩⟩
    · rw [en, ev k _ k0 (by omega) k1]
      exact m7 k X Y k0 k1 hct.1
    · exact ih (X + 1) _ (by omega) (by omega) (mt_val hd hct hi (mt_sF hr hB hmr hkd k10 i1))
    · rw [i1 1 0 (by omega) (by omega)]
      exact ew
    · rw [i1 1 1 (by omega) (by omega)]
      exact eh
    · rw [en]
      exact m5 0 (by omega) (by omega)
    · intro u v huv
      show m_vr (ν _ _)
      rw [en, ev 0 _ (by omega) (by omega) (mn_1 (by omega))]
      exact m7 0 u v (by omega) (mn_1 (by omega)) huv
    · have eA : c_A ν (24 + ν (r + 10) 0) = c_A μ (24 + μ (r + 10) 0) := by
        funext u v
        show ν _ _ = μ _ _
        rw [en, ev 0 _ (by omega) (by omega) (mn_1 (by omega))]
      rw [eA]
      have hi1 : mt_in μ r B w h tile Y X ν1 := by
        refine ⟨fun a j n1 n2 => (f1 a j n1).trans (i1 a j n1 n2), fun x y hc hl => (f1 _ _ (by omega)).trans (i2 x y hc hl), fun j hj => (f1 _ _ (by omega)).trans (i3 j hj)⟩
      refine ih (X + 1) _ (by omega) (by omega) (mt_val hd hct hi1 ?_)
      unfold c_F m_F
      rw [if_neg (by omega), if_neg (by omega), if_neg (by omega), if_pos k10]
theorem mt_30 {Rt : Option QV → QM → Prop} {S : Nat → QL → List QV → QM → Prop} (hR : q_Rule cX1_makeTile 8 u_X1_makeTile fl_X1 ld_X1 G_X1_makeTile q_T 4 s_X1_makeTile Rt S) {μ : QM} {r B w h tile right top : Int} (hr : q_rc r) (hd : m_dim w h) (ew : μ 1 0 = w) (eh : μ 1 1 = h) (htl : m_tl w h tile) (hB : 0 ≤ B ∧ B < 10) (hmr : c_mr μ r B w h) (hkd : ¬ μ r 2 = 7 ∧ ¬ μ r 2 = 11 ∧ ¬ μ r 2 = 12) (hright : right ≤ w ∧ right ≤ tile % 3 * 4 + 4 ∧ tile % 3 * 4 ≤ right) (hfr : ∀ x : Int, x < w → x / 4 = tile % 3 → x < right) (htop : top ≤ h ∧ top ≤ tile / 3 * 4 + 4 ∧ tile / 3 * 4 ≤ top) (hft : ∀ y : Int, y < h → y / 4 = tile / 3 → y < top) (hk : ∀ ν : QM, (∀ a j : Int, ¬ a = 35 → ¬ a = 24 + B → ν a j = μ a j) → (∀ x y : Int, c_ct tile w h x y → ν (24 + B) (c_p x y) = c_F μ r w h x y) → (∀ j : Int, (∀ x y : Int, c_ct tile w h x y → ¬ j = c_p x y) → ν (24 + B) j = μ (24 + B) j) → Rt none ν) : ∀ (d : Nat) (Y : Int) (ν : QM) (l7 : Option QV), tile / 3 * 4 ≤ Y → Y + d = top → mt_in μ r B w h tile Y 0 ν → S 30 [some (.inr (.inr 34)), some (.inr (.inr r)), some (.inl tile), some (.inr (.inr (24 + B))), some (.inl right), some (.inl top), some (.inl Y), l7] [] ν := by
  intro d
  induction d with
  | zero =>
    intro Y ν l7 h1 h2 hi
    obtain rfl : Y = top := by omega
    obtain ⟨i1, i2, i3⟩ := hi
    refine hR 60 b_X1_makeTile_30 30 _ _ _ o_X1_makeTile_30 ?_
    simp only [v_opt_n, v_opt_s, v_nil, v_iconst, v_bipush, v_sipush, v_lconst0, v_lconst1, v_ldc, v_ldcw, v_ldc2, v_iload0, v_iload1, v_iload2, v_iload3, v_iload, v_lload0, v_lload1, v_lload2, v_lload3, v_lload, v_aload0, v_aload1, v_aload2, v_aload3, v_aload, v_istore0, v_istore1, v_istore2, v_istore3, v_istore, v_lstore0, v_lstore1, v_lstore2, v_lstore3, v_lstore, v_astore0, v_astore1, v_astore2, v_astore3, v_astore, v_iinc, v_iadd, v_isub, v_imul, v_iand, v_ior, v_ixor, v_ishl, v_ishr, v_iushr, v_ineg, v_idiv, v_irem, v_ladd, v_lsub, v_lmul, v_lcmp, v_i2l, v_l2i, v_i2c, v_dup, v_dup2, v_if_eq, v_if_ne, v_if_lt, v_if_ge, v_if_gt, v_if_le, v_ic_eq, v_ic_ne, v_ic_lt, v_ic_ge, v_ic_gt, v_ic_le, v_goto, v_tsw, v_lsw, v_ireturn, v_areturn, v_return, v_iaload, v_laload, v_baload, v_caload, v_aaload, v_iastore, v_lastore, v_bastore, v_castore, v_alen, v_invvi, v_invst, v_invsp, e_int, e_lng, e_ref, e_lg0, e_lg1, e_lg2, e_lg3, e_lg4, e_lg5, e_lg6, e_lg7, e_lg8, e_lg9, e_lg10, e_lg11, e_lg12, e_lg13, e_clrI, e_clrJ, e_clrP, e_clrN, e_s0, e_s1, e_s2, e_s3, e_s4, e_s5, e_s6, e_s7, e_s8, e_s9, e_s10, e_s11, e_s12, e_s13, e_t0, e_t1, e_t2, e_t3, e_t4, e_t5, e_t6, e_t7, e_t8, e_t9, e_t10, e_t11, e_t12, e_t13, e_fd, e_kk, e_k0, e_k1, e_k2, e_k3, e_k4, e_k5, e_k6, e_k7, e_k8, e_k9, e_sv0, e_sv1, e_sv2, e_sv3, e_svc, e_pf0, e_pf1, e_pf2, e_pf3, e_ar, e_aa, e_al, e_sw1, e_sw2, e_ct0, e_ct1, e_ct2, e_cat0, e_cat1, e_rk0, e_rk1, e_rk2, e_inv0, e_inv1, e_inv2, e_inv3, e_inv4, e_inv5, e_inv6, e_o0, e_o1, e_cl, e_cle, e_cg, e_cge, e_ce, e_cr1, e_cr2, e_r, e_R, e_up, Int.cast_ofNat_Int, u_app, false_and, and_false, e_b0, e_b1, e_bn, e_bl, e_bu, Int.reduceLE, Int.reduceLT, Int.reduceEq, Int.reduceNeg, Int.reduceAdd, Int.reduceSub, Int.reduceMul, Nat.reduceLeDiff, Nat.reduceLT, Nat.reduceAdd, Nat.reduceEqDiff, true_and, and_true, true_or, or_true, false_or, or_false, forall_const, not_true_eq_false, not_false_eq_true, true_implies, false_implies, implies_true, and_self, zero_ne_one, one_ne_zero, eq_self, reduceIte, v_getf, v_putf, s_X1_makeTile_0, b_X1_makeTile_0, s_X1_makeTile_30, b_X1_makeTile_30, s_X1_makeTile_37, b_X1_makeTile_37, s_X1_makeTile_47, b_X1_makeTile_47, s_X1_makeTile_54, b_X1_makeTile_54, s_X1_makeTile_71, b_X1_makeTile_71, s_X1_makeTile_83, b_X1_makeTile_83, s_X1_makeTile_95, b_X1_makeTile_95, s_X1_makeTile_102, b_X1_makeTile_102, s_X1_makeTile_108, b_X1_makeTile_108, fl_X1_29, T_34, fl_X1_60, G_X1_makeTile_41, sp_X0_rightOf_e, G_X1_makeTile_47, sp_X0_topOf_e, G_X1_makeTile_50, sp_X0_bottomOf_e, G_X1_makeTile_53, sp_X0_leftOf_e, G_X1_makeTile_66, sp_X1_near_e, G_X1_makeTile_70, sp_X1_single_e, G_X1_makeTile_56, sp_X10_placeOf_e]
    exact ⟨by omega, fun _ => hk ν i1 (fun x y hc => i2 x y hc (Or.inl (hft y hc.1.2.2.2 hc.2.2))) i3, fun c => absurd (Int.le_refl _) c⟩
  | succ d ih =>
    intro Y ν l7 h1 h2 hi
    refine hR 60 b_X1_makeTile_30 30 _ _ _ o_X1_makeTile_30 ?_
    simp only [v_opt_n, v_opt_s, v_nil, v_iconst, v_bipush, v_sipush, v_lconst0, v_lconst1, v_ldc, v_ldcw, v_ldc2, v_iload0, v_iload1, v_iload2, v_iload3, v_iload, v_lload0, v_lload1, v_lload2, v_lload3, v_lload, v_aload0, v_aload1, v_aload2, v_aload3, v_aload, v_istore0, v_istore1, v_istore2, v_istore3, v_istore, v_lstore0, v_lstore1, v_lstore2, v_lstore3, v_lstore, v_astore0, v_astore1, v_astore2, v_astore3, v_astore, v_iinc, v_iadd, v_isub, v_imul, v_iand, v_ior, v_ixor, v_ishl, v_ishr, v_iushr, v_ineg, v_idiv, v_irem, v_ladd, v_lsub, v_lmul, v_lcmp, v_i2l, v_l2i, v_i2c, v_dup, v_dup2, v_if_eq, v_if_ne, v_if_lt, v_if_ge, v_if_gt, v_if_le, v_ic_eq, v_ic_ne, v_ic_lt, v_ic_ge, v_ic_gt, v_ic_le, v_goto, v_tsw, v_lsw, v_ireturn, v_areturn, v_return, v_iaload, v_laload, v_baload, v_caload, v_aaload, v_iastore, v_lastore, v_bastore, v_castore, v_alen, v_invvi, v_invst, v_invsp, e_int, e_lng, e_ref, e_lg0, e_lg1, e_lg2, e_lg3, e_lg4, e_lg5, e_lg6, e_lg7, e_lg8, e_lg9, e_lg10, e_lg11, e_lg12, e_lg13, e_clrI, e_clrJ, e_clrP, e_clrN, e_s0, e_s1, e_s2, e_s3, e_s4, e_s5, e_s6, e_s7, e_s8, e_s9, e_s10, e_s11, e_s12, e_s13, e_t0, e_t1, e_t2, e_t3, e_t4, e_t5, e_t6, e_t7, e_t8, e_t9, e_t10, e_t11, e_t12, e_t13, e_fd, e_kk, e_k0, e_k1, e_k2, e_k3, e_k4, e_k5, e_k6, e_k7, e_k8, e_k9, e_sv0, e_sv1, e_sv2, e_sv3, e_svc, e_pf0, e_pf1, e_pf2, e_pf3, e_ar, e_aa, e_al, e_sw1, e_sw2, e_ct0, e_ct1, e_ct2, e_cat0, e_cat1, e_rk0, e_rk1, e_rk2, e_inv0, e_inv1, e_inv2, e_inv3, e_inv4, e_inv5, e_inv6, e_o0, e_o1, e_cl, e_cle, e_cg, e_cge, e_ce, e_cr1, e_cr2, e_r, e_R, e_up, Int.cast_ofNat_Int, u_app, false_and, and_false, e_b0, e_b1, e_bn, e_bl, e_bu, Int.reduceLE, Int.reduceLT, Int.reduceEq, Int.reduceNeg, Int.reduceAdd, Int.reduceSub, Int.reduceMul, Nat.reduceLeDiff, Nat.reduceLT, Nat.reduceAdd, Nat.reduceEqDiff, true_and, and_true, true_or, or_true, false_or, or_false, forall_const, not_true_eq_false, not_false_eq_true, true_implies, false_implies, implies_true, and_self, zero_ne_one, one_ne_zero, eq_self, reduceIte, v_getf, v_putf, s_X1_makeTile_0, b_X1_makeTile_0, s_X1_makeTile_30, b_X1_makeTile_30, s_X1_makeTile_37, b_X1_makeTile_37, s_X1_makeTile_47, b_X1_makeTile_47, s_X1_makeTile_54, b_X1_makeTile_54, s_X1_makeTile_71, b_X1_makeTile_71, s_X1_makeTile_83, b_X1_makeTile_83, s_X1_makeTile_95, b_X1_makeTile_95, s_X1_makeTile_102, b_X1_makeTile_102, s_X1_makeTile_108, b_X1_makeTile_108, fl_X1_29, T_34, fl_X1_60, G_X1_makeTile_41, sp_X0_rightOf_e, G_X1_makeTile_47, sp_X0_topOf_e, G_X1_makeTile_50, sp_X0_bottomOf_e, G_X1_makeTile_53, sp_X0_leftOf_e, G_X1_makeTile_66, sp_X1_near_e, G_X1_makeTile_70, sp_X1_single_e, G_X1_makeTile_56, sp_X10_placeOf_e]
    refine ⟨by omega, fun c => by omega, fun c => ⟨by omega, ?_⟩⟩
    refine mt_47 hR hr hd ew eh htl hB hmr hkd ⟨hright.1, hright.2.1⟩ ⟨h1, by omega, by omega⟩ (fun ν' l7 hi' => ih (Y + 1) ν' l7 (by omega) (by omega) ?_) (right - tile % 3 * 4).toNat (tile % 3 * 4) ν (by omega) (by omega) ?_
    · obtain ⟨i1, i2, i3⟩ := hi'
      refine ⟨i1, fun x y hc hl => i2 x y hc ?_, i3⟩
      by_cases c2 : y < Y
      · exact Or.inl c2
      · have h9 := hc.1.1
        exact Or.inr ⟨by omega, hfr x hc.1.2.1 hc.2.1⟩
    · obtain ⟨i1, i2, i3⟩ := hi
      refine ⟨i1, fun x y hc hl => i2 x y hc ?_, i3⟩
      by_cases c2 : y < Y
      · exact Or.inl c2
      · have h8 := hc.2.1
        exact absurd hl (by omega)
set_option maxRecDepth 100000 in
set_option maxHeartbeats 4000000 in
theorem B_X1_makeTile : q_Body cX1_makeTile 8 u_X1_makeTile fl_X1 ld_X1 G_X1_makeTile q_T 4 s_X1_makeTile sp_X1_makeTile := by
  intro S Rt hR ra μ h
  obtain ⟨this, recipe, tile, out, rfl, h⟩ := sp_X1_makeTile_i h
  refine ⟨by simp [q_sl, q_ct], ?_⟩
  show S 0 [some (.inr (.inr this)), some (.inr (.inr recipe)), some (.inl tile), some (.inr (.inr out)), none, none, none, none] [] μ
  obtain ⟨rfl, hr, w, h9, B, hd, ew, eh, htl, rfl, hB, hmr, hkd, hk⟩ := h
  refine hR 60 [] 0 _ _ _ rfl ?_
  simp only [v_opt_n, v_opt_s, v_nil, v_iconst, v_bipush, v_sipush, v_lconst0, v_lconst1, v_ldc, v_ldcw, v_ldc2, v_iload0, v_iload1, v_iload2, v_iload3, v_iload, v_lload0, v_lload1, v_lload2, v_lload3, v_lload, v_aload0, v_aload1, v_aload2, v_aload3, v_aload, v_istore0, v_istore1, v_istore2, v_istore3, v_istore, v_lstore0, v_lstore1, v_lstore2, v_lstore3, v_lstore, v_astore0, v_astore1, v_astore2, v_astore3, v_astore, v_iinc, v_iadd, v_isub, v_imul, v_iand, v_ior, v_ixor, v_ishl, v_ishr, v_iushr, v_ineg, v_idiv, v_irem, v_ladd, v_lsub, v_lmul, v_lcmp, v_i2l, v_l2i, v_i2c, v_dup, v_dup2, v_if_eq, v_if_ne, v_if_lt, v_if_ge, v_if_gt, v_if_le, v_ic_eq, v_ic_ne, v_ic_lt, v_ic_ge, v_ic_gt, v_ic_le, v_goto, v_tsw, v_lsw, v_ireturn, v_areturn, v_return, v_iaload, v_laload, v_baload, v_caload, v_aaload, v_iastore, v_lastore, v_bastore, v_castore, v_alen, v_invvi, v_invst, v_invsp, e_int, e_lng, e_ref, e_lg0, e_lg1, e_lg2, e_lg3, e_lg4, e_lg5, e_lg6, e_lg7, e_lg8, e_lg9, e_lg10, e_lg11, e_lg12, e_lg13, e_clrI, e_clrJ, e_clrP, e_clrN, e_s0, e_s1, e_s2, e_s3, e_s4, e_s5, e_s6, e_s7, e_s8, e_s9, e_s10, e_s11, e_s12, e_s13, e_t0, e_t1, e_t2, e_t3, e_t4, e_t5, e_t6, e_t7, e_t8, e_t9, e_t10, e_t11, e_t12, e_t13, e_fd, e_kk, e_k0, e_k1, e_k2, e_k3, e_k4, e_k5, e_k6, e_k7, e_k8, e_k9, e_sv0, e_sv1, e_sv2, e_sv3, e_svc, e_pf0, e_pf1, e_pf2, e_pf3, e_ar, e_aa, e_al, e_sw1, e_sw2, e_ct0, e_ct1, e_ct2, e_cat0, e_cat1, e_rk0, e_rk1, e_rk2, e_inv0, e_inv1, e_inv2, e_inv3, e_inv4, e_inv5, e_inv6, e_o0, e_o1, e_cl, e_cle, e_cg, e_cge, e_ce, e_cr1, e_cr2, e_r, e_R, e_up, Int.cast_ofNat_Int, u_app, false_and, and_false, e_b0, e_b1, e_bn, e_bl, e_bu, Int.reduceLE, Int.reduceLT, Int.reduceEq, Int.reduceNeg, Int.reduceAdd, Int.reduceSub, Int.reduceMul, Nat.reduceLeDiff, Nat.reduceLT, Nat.reduceAdd, Nat.reduceEqDiff, true_and, and_true, true_or, or_true, false_or, or_false, forall_const, not_true_eq_false, not_false_eq_true, true_implies, false_implies, implies_true, and_self, zero_ne_one, one_ne_zero, eq_self, reduceIte, v_getf, v_putf, s_X1_makeTile_0, b_X1_makeTile_0, s_X1_makeTile_30, b_X1_makeTile_30, s_X1_makeTile_37, b_X1_makeTile_37, s_X1_makeTile_47, b_X1_makeTile_47, s_X1_makeTile_54, b_X1_makeTile_54, s_X1_makeTile_71, b_X1_makeTile_71, s_X1_makeTile_83, b_X1_makeTile_83, s_X1_makeTile_95, b_X1_makeTile_95, s_X1_makeTile_102, b_X1_makeTile_102, s_X1_makeTile_108, b_X1_makeTile_108, fl_X1_29, T_34, fl_X1_60, G_X1_makeTile_41, sp_X0_rightOf_e, G_X1_makeTile_47, sp_X0_topOf_e, G_X1_makeTile_50, sp_X0_bottomOf_e, G_X1_makeTile_53, sp_X0_leftOf_e, G_X1_makeTile_66, sp_X1_near_e, G_X1_makeTile_70, sp_X1_single_e, G_X1_makeTile_56, sp_X10_placeOf_e, ew, eh]
  refine ⟨by omega, by omega, by omega, by omega, by omega, ?_⟩
  have kk : ∀ a b : Int, (a ≤ b ∧ (if a ≤ b then a else b) = a) ∨ (b < a ∧ (if a ≤ b then a else b) = b) := fun a b => by
    by_cases c : a ≤ b
    · exact Or.inl ⟨c, if_pos c⟩
    · exact Or.inr ⟨by omega, if_neg c⟩
  have k1 := kk w (tile % 3 * 4 + 4)
  have k2 := kk h9 (tile / 3 * 4 + 4)
  generalize (if w ≤ tile % 3 * 4 + 4 then w else tile % 3 * 4 + 4) = right at *
  generalize (if h9 ≤ tile / 3 * 4 + 4 then h9 else tile / 3 * 4 + 4) = top at *
  exact mt_30 hR hr hd ew eh htl hB hmr hkd ⟨by omega, by omega, by omega⟩ (fun x h1 h2 => by omega) ⟨by omega, by omega, by omega⟩ (fun y h1 h2 => by omega) hk (top - tile / 3 * 4).toNat (tile / 3 * 4) μ none (by omega) (by omega) ⟨fun _ _ _ _ => rfl, fun x y hc hl => by omega, fun _ _ => rfl⟩
set_option maxRecDepth 100000 in
theorem C_X1_makeTile {l : Launch} {ad : Int → Nat} {D : va_G} {cy : Nat → ClassId} {Z : State → Prop} (hZ : q_Zg ad Z) : q_Ct l q_T q_N ad D cy Z yX1_makeTile cX1_makeTile 8 none rm_X1_makeTile sp_X1_makeTile := by
  obtain ⟨hf, hg, hld⟩ := q_chkS k_X1_makeTile
  refine q_met (rk := 4) q_wokT (by decide) rfl hf hg hld rfl (q_skS L_X1_makeTile o_X1_makeTile) ?_ ?_ ?_ ?_ B_X1_makeTile
  · intro i hi; exact absurd hi List.not_mem_nil
  · intro i hi
    have hi : i = 41 ∨ i = 47 ∨ i = 50 ∨ i = 53 ∨ i = 66 ∨ i = 70 := by simpa [u_X1_makeTile] using hi
    rcases hi with rfl | rfl | rfl | rfl | rfl | rfl
    · exact q_crV hZ.1 (C_X0_rightOf hZ) rv_X0_rightOf cm_X0_rightOf (by decide +kernel) (by decide +kernel) (by decide +kernel) (by decide +kernel) (by decide +kernel) ⟨rfl, rfl⟩ (by decide)
    · exact q_crV hZ.1 (C_X0_topOf hZ) rv_X0_topOf cm_X0_topOf (by decide +kernel) (by decide +kernel) (by decide +kernel) (by decide +kernel) (by decide +kernel) ⟨rfl, rfl⟩ (by decide)
    · exact q_crV hZ.1 (C_X0_bottomOf hZ) rv_X0_bottomOf cm_X0_bottomOf (by decide +kernel) (by decide +kernel) (by decide +kernel) (by decide +kernel) (by decide +kernel) ⟨rfl, rfl⟩ (by decide)
    · exact q_crV hZ.1 (C_X0_leftOf hZ) rv_X0_leftOf cm_X0_leftOf (by decide +kernel) (by decide +kernel) (by decide +kernel) (by decide +kernel) (by decide +kernel) ⟨rfl, rfl⟩ (by decide)
    · exact q_crV hZ.1 (C_X1_near hZ) rv_X1_near cm_X1_near (by decide +kernel) (by decide +kernel) (by decide +kernel) (by decide +kernel) (by decide +kernel) ⟨rfl, rfl⟩ (by decide)
    · exact q_crV hZ.1 (C_X1_single hZ) rv_X1_single cm_X1_single (by decide +kernel) (by decide +kernel) (by decide +kernel) (by decide +kernel) (by decide +kernel) ⟨rfl, rfl⟩ (by decide)
  · intro i hi
    have hi : i = 56 := by simpa [u_X1_makeTile] using hi
    rcases hi with rfl
    · exact q_crSN hZ.1 (C_X10_placeOf hZ) cm_X10_placeOf (fun s h => hZ.2 s h (RX1, 56, yX10_placeOf, "BoardSums") (List.mem_of_getElem? (i := 2) rfl)) (by decide +kernel) (by decide +kernel) (by decide +kernel) ⟨rfl, rfl⟩ (by decide)
  · intro i hi; exact absurd hi List.not_mem_nil
theorem rv_X1_makeTile : q_rcv q_T yX1_makeTile.cls sp_X1_makeTile := by
  intro ra μ K h
  obtain ⟨this, recipe, tile, out, rfl, h⟩ := sp_X1_makeTile_i h
  obtain rfl := h.1
  exact ⟨[.inr (.inr out), .inl tile, .inr (.inr recipe)], 34, 1, _, _, rfl, T_34, rfl, rfl⟩
theorem cm_X1_makeTile : Cond.code yX1_makeTile cX1_makeTile 8 none ∈ q_tb := by decide +kernel

