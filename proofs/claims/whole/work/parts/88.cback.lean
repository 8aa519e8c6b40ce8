/-! the class: back -/
/-- how many places differ -/
abbrev c_df1 (μ : QM) (k s : Int) : Int → Int := fun p => if μ (9 + k) (196 * s + p) = μ (4 + s) p then 0 else 1
theorem m_sm_s {g : Int → Int} : ∀ (d : Nat) (u : Int), m_sm g (d + 1) u = m_sm g d u + g (u + d)
  | 0, u => by
    show g u + 0 = 0 + g (u + ((0 : Nat) : Int))
    rw [show u + ((0 : Nat) : Int) = u by omega]
    omega
  | d + 1, u => by
    show g u + m_sm g (d + 1) (u + 1) = (g u + m_sm g d (u + 1)) + g (u + ((d + 1 : Nat) : Int))
    rw [m_sm_s d (u + 1), show u + 1 + (d : Int) = u + ((d + 1 : Nat) : Int) by omega]
    omega
/-- the images of that number can be brought back to this sheet -/
def c_img (μ : QM) (w h k s : Int) : Prop := (∀ u v : Int, -1 ≤ u → u ≤ 12 → -1 ≤ v → v ≤ 12 → ¬ m_in w h u v → μ (9 + k) (196 * s + c_p u v) = -2000000000 ∧ μ (4 + s) (c_p u v) = -2000000000) ∧ ∀ u v : Int, m_in w h u v → m_vr (μ (9 + k) (196 * s + c_p u v))
def bb_in (μ : QM) (P w h n k s p : Int) (ν : QM) : Prop := (∀ a j : Int, ¬ a = 21 → ¬ a = 22 → ¬ a = 4 + s → ν a j = μ a j) ∧ (∀ j : Int, ν (4 + s) j = if 15 ≤ j ∧ j < p then μ (9 + k) (196 * s + j) else μ (4 + s) j) ∧ c_ok ν P w h n ∧ (∀ (b : Int) (t : Nat), 0 ≤ b → b < 10 → (q_bit (ν 21 b) t = true ↔ q_bit (μ 21 b) t = true ∧ ∀ x y : Int, m_in w h x y → c_p x y < p → ¬ μ (9 + k) (196 * s + c_p x y) = μ (4 + s) (c_p x y) → c_fr μ P w h b t s (c_ti x y) = 0)) ∧ (∀ j : Int, 0 ≤ j → j < 10 → q_mk (ν 22 j))
def sp_X10_bringBack : QP := fun ra μ K => match ra with
  | [.inl sheet, .inl k, .inr (.inr this)] => this = 0 ∧ (0 ≤ k ∧ k < 3) ∧ (0 ≤ sheet ∧ sheet < 4) ∧ ∃ P w h n : Int, c_ok μ P w h n ∧ μ P 2 = n ∧ (∀ j : Int, 0 ≤ j → j < 10 → q_mk (μ 22 j)) ∧ c_img μ w h k sheet ∧ ∀ ν : QM, bb_in μ P w h n k sheet 181 ν → K (some (.inl (m_sm (c_df1 μ k sheet) 166 15))) ν
  | _ => False
theorem sp_X10_bringBack_e (this k sheet : Int) (μ : QM) (K : Option QV → QM → Prop) : sp_X10_bringBack [.inl sheet, .inl k, .inr (.inr this)] μ K = (this = 0 ∧ (0 ≤ k ∧ k < 3) ∧ (0 ≤ sheet ∧ sheet < 4) ∧ ∃ P w h n : Int, c_ok μ P w h n ∧ μ P 2 = n ∧ (∀ j : Int, 0 ≤ j → j < 10 → q_mk (μ 22 j)) ∧ c_img μ w h k sheet ∧ ∀ ν : QM, bb_in μ P w h n k sheet 181 ν → K (some (.inl (m_sm (c_df1 μ k sheet) 166 15))) ν) := propext Iff.rfl
theorem sp_X10_bringBack_i {ra : List QV} {μ : QM} {K : Option QV → QM → Prop} (h : sp_X10_bringBack ra μ K) : ∃ this k sheet : Int, ra = [.inl sheet, .inl k, .inr (.inr this)] ∧ (this = 0 ∧ (0 ≤ k ∧ k < 3) ∧ (0 ≤ sheet ∧ sheet < 4) ∧ ∃ P w h n : Int, c_ok μ P w h n ∧ μ P 2 = n ∧ (∀ j : Int, 0 ≤ j → j < 10 → q_mk (μ 22 j)) ∧ c_img μ w h k sheet ∧ ∀ ν : QM, bb_in μ P w h n k sheet 181 ν → K (some (.inl (m_sm (c_df1 μ k sheet) 166 15))) ν) := by
  unfold sp_X10_bringBack at h
  split at h
  · exact ⟨_, _, _, rfl, h⟩
  · exact h.elim
def rm_X10_bringBack : Room := { frames := 5, cells := 0, slots := 0, locals := 115 }
def G_X10_bringBack : Nat → Nat × QP := fun i => match i with
  | 98 => (4, sp_X10_put)
  | _ => (0, fun _ _ _ => False)
theorem G_X10_bringBack_98 : G_X10_bringBack 98 = (4, sp_X10_put) := id rfl
theorem c_fr_cg {μ ν : QM} {P w h n b t s T : Int} (hP : q_pl P) (hn : n ≤ 10) (hs : 0 ≤ s ∧ s < 4) (f : ∀ a j : Int, 39 ≤ a → a ≤ 84 → ν a j = μ a j) (b1 : b < n) : c_fr ν P w h b t s T = c_fr μ P w h b t s T := by
  unfold c_fr
  rw [m_from_cg (fun c c0 c1 => ⟨f _ _ (by omega) (by omega), f _ _ (by omega) (by omega), fun k _ _ => f _ _ (by omega) (by omega)⟩) (fun c c0 c1 => f _ _ (by omega) (by omega))]
theorem bb_skip {μ ν : QM} {P w h n k s p : Int} (hk : 0 ≤ k ∧ k < 3) (hs : 0 ≤ s ∧ s < 4) (hp : 15 ≤ p ∧ p ≤ 180) (hi : bb_in μ P w h n k s p ν) (e : μ (9 + k) (196 * s + p) = μ (4 + s) p) : bb_in μ P w h n k s (p + 1) ν := by
  obtain ⟨i1, i2, i3, i4, i5⟩ := hi
  refine ⟨i1, fun j => ?_, i3, fun b t b0 b1 => ?_, i5⟩
  · rw [i2 j]
    by_cases c : j = p
    · rw [if_neg (by omega), if_pos (by omega), c, e]
    · by_cases c2 : 15 ≤ j ∧ j < p
      · rw [if_pos c2, if_pos (by omega)]
      · rw [if_neg c2, if_neg (by omega)]
  · rw [i4 b t b0 b1]
    refine and_congr_right (fun _ => ⟨fun q x y hxy hl hne => ?_, fun q x y hxy hl hne => q x y hxy (by omega) hne⟩)
    by_cases c : c_p x y = p
    · rw [c] at hne
      exact absurd e hne
    · exact q x y hxy (by omega) hne
theorem bb_put {μ ν ν2 : QM} {P w h n k s X Y : Int} (hk : 0 ≤ k ∧ k < 3) (hs : 0 ≤ s ∧ s < 4) (hxy : m_in w h X Y) (hi : bb_in μ P w h n k s (c_p X Y) ν) (hne : ¬ μ (9 + k) (196 * s + c_p X Y) = μ (4 + s) (c_p X Y)) (f : ∀ a j : Int, ¬ a = 21 → ¬ a = 22 → ¬ (a = 4 + s ∧ j = c_p X Y) → ν2 a j = ν a j) (e : ν2 (4 + s) (c_p X Y) = μ (9 + k) (196 * s + c_p X Y)) (g1 : c_ok ν2 P w h n) (g2 : ∀ (b : Int) (t : Nat), 0 ≤ b → b < 10 → (q_bit (ν2 21 b) t = true ↔ q_bit (ν 21 b) t = true ∧ c_fr ν P w h b t s (c_ti X Y) = 0)) (g3 : ∀ j : Int, 0 ≤ j → j < 10 → q_mk (ν2 22 j)) : bb_in μ P w h n k s (c_p X Y + 1) ν2 := by
  obtain ⟨i1, i2, i3, i4, i5⟩ := hi
  have hd := g1.1.2.2.1
  have hP := g1.1.1
  have hn := g1.1.2.2.2.2.2.2.2.1
  have ep : c_p X Y = (Y + 1) * 14 + X + 1 := rfl
  have hfr : ∀ (b t : Int), b < n → c_fr ν P w h b t s (c_ti X Y) = c_fr μ P w h b t s (c_ti X Y) := fun b t b1 => c_fr_cg hP hn.2 hs (fun a j a0 a1 => i1 a j (by omega) (by omega) (by omega)) b1
  refine ⟨fun a j n1 n2 n3 => (f a j n1 n2 (by omega)).trans (i1 a j n1 n2 n3), fun j => ?_, g1, fun b t b0 b1 => ?_, g3⟩
  · by_cases c : j = c_p X Y
    · rw [c, e, if_pos (by omega)]
    · rw [f _ _ (by omega) (by omega) (by omega), i2 j]
      by_cases c2 : 15 ≤ j ∧ j < c_p X Y
      · rw [if_pos c2, if_pos (by omega)]
      · rw [if_neg c2, if_neg (by omega)]
  · rw [g2 b t b0 b1, i4 b t b0 b1]
    constructor
    · rintro ⟨⟨q1, q2⟩, q3⟩
      refine ⟨q1, fun x y h1 h2 h3 => ?_⟩
      by_cases c : c_p x y = c_p X Y
      · obtain ⟨e1, e2⟩ := c_p_inj (y := y) (v := Y) (by omega) (by omega) c
        have q4 : q_bit (ν2 21 b) t = true := (g2 b t b0 b1).mpr ⟨(i4 b t b0 b1).mpr ⟨q1, q2⟩, q3⟩
        have hb := (g1.2.2.1.2.1 b t b0 b1 q4).1
        rw [e1, e2, ← hfr b t hb]
        exact q3
      · exact q2 x y h1 (by omega) h3
    · rintro ⟨q1, q2⟩
      have q4 : q_bit (ν 21 b) t = true := (i4 b t b0 b1).mpr ⟨q1, fun x y h1 h2 h3 => q2 x y h1 (by omega) h3⟩
      have hb := (i3.2.2.1.2.1 b t b0 b1 q4).1
      refine ⟨⟨q1, fun x y h1 h2 h3 => q2 x y h1 (by omega) h3⟩, ?_⟩
      rw [hfr b t hb]
      exact q2 X Y hxy (by omega) hne
theorem bb_6 {Rt : Option QV → QM → Prop} {S : Nat → QL → List QV → QM → Prop} (hR : q_Rule cX10_bringBack 6 u_X10_bringBack fl_X10 ld_X10 G_X10_bringBack q_T 0 s_X10_bringBack Rt S) {μ : QM} {P w h n k s : Int} (hk3 : 0 ≤ k ∧ k < 3) (hs : 0 ≤ s ∧ s < 4) (hok : c_ok μ P w h n) (hn : μ P 2 = n) (him : c_img μ w h k s) (hk : ∀ ν : QM, bb_in μ P w h n k s 181 ν → Rt (some (.inl (m_sm (c_df1 μ k s) 166 15))) ν) : ∀ (d e : Nat) (ν : QM) (l5 : Option QV), e + d = 166 → bb_in μ P w h n k s (15 + e) ν → S 6 [some (.inr (.inr 0)), some (.inl k), some (.inl s), some (.inl (m_sm (c_df1 μ k s) e 15)), some (.inl (15 + (e : Int))), l5] [] ν := by
  intro d
  have hP := hok.1.1
  have hd := hok.1.2.2.1
  have tc := T_cell hs.1 hs.2
  have ti := T_img hk3.1 hk3.2
  induction d with
  | zero =>
    intro e ν l5 h1 hi
    obtain rfl : e = 166 := by omega
    refine hR 60 b_X10_bringBack_6 6 _ _ _ o_X10_bringBack_6 ?_
    simp only [v_opt_n, v_opt_s, v_nil, v_iconst, v_bipush, v_sipush, v_lconst0, v_lconst1, v_ldc, v_ldcw, v_ldc2, v_iload0, v_iload1, v_iload2, v_iload3, v_iload, v_lload0, v_lload1, v_lload2, v_lload3, v_lload, v_aload0, v_aload1, v_aload2, v_aload3, v_aload, v_istore0, v_istore1, v_istore2, v_istore3, v_istore, v_lstore0, v_lstore1, v_lstore2, v_lstore3, v_lstore, v_astore0, v_astore1, v_astore2, v_astore3, v_astore, v_iinc, v_iadd, v_isub, v_imul, v_iand, v_ior, v_ixor, v_ishl, v_ishr, v_iushr, v_ineg, v_idiv, v_irem, v_ladd, v_lsub, v_lmul, v_lcmp, v_i2l, v_l2i, v_i2c, v_dup, v_dup2, v_if_eq, v_if_ne, v_if_lt, v_if_ge, v_if_gt, v_if_le, v_ic_eq, v_ic_ne, v_ic_lt, v_ic_ge, v_ic_gt, v_ic_le, v_goto, v_tsw, v_lsw, v_ireturn, v_areturn, v_return, v_iaload, v_laload, v_baload, v_caload, v_aaload, v_iastore, v_lastore, v_bastore, v_castore, v_alen, v_invvi, v_invst, v_invsp, e_int, e_lng, e_ref, e_lg0, e_lg1, e_lg2, e_lg3, e_lg4, e_lg5, e_lg6, e_lg7, e_lg8, e_lg9, e_lg10, e_lg11, e_lg12, e_lg13, e_clrI, e_clrJ, e_clrP, e_clrN, e_s0, e_s1, e_s2, e_s3, e_s4, e_s5, e_s6, e_s7, e_s8, e_s9, e_s10, e_s11, e_s12, e_s13, e_t0, e_t1, e_t2, e_t3, e_t4, e_t5, e_t6, e_t7, e_t8, e_t9, e_t10, e_t11, e_t12, e_t13, e_fd, e_kk, e_k0, e_k1, e_k2, e_k3, e_k4, e_k5, e_k6, e_k7, e_k8, e_k9, e_sv0, e_sv1, e_sv2, e_sv3, e_svc, e_pf0, e_pf1, e_pf2, e_pf3, e_ar, e_aa, e_al, e_sw1, e_sw2, e_ct0, e_ct1, e_ct2, e_cat0, e_cat1, e_rk0, e_rk1, e_rk2, e_inv0, e_inv1, e_inv2, e_inv3, e_inv4, e_inv5, e_inv6, e_o0, e_o1, e_cl, e_cle, e_cg, e_cge, e_ce, e_cr1, e_cr2, e_r, e_R, e_up, Int.cast_ofNat_Int, u_app, false_and, and_false, e_b0, e_b1, e_bn, e_bl, e_bu, Int.reduceLE, Int.reduceLT, Int.reduceEq, Int.reduceNeg, Int.reduceAdd, Int.reduceSub, Int.reduceMul, Nat.reduceLeDiff, Nat.reduceLT, Nat.reduceAdd, Nat.reduceEqDiff, true_and, and_true, true_or, or_true, false_or, or_false, forall_const, not_true_eq_false, not_false_eq_true, true_implies, false_implies, implies_true, and_self, zero_ne_one, one_ne_zero, eq_self, reduceIte, s_X10_bringBack_0, b_X10_bringBack_0, s_X10_bringBack_6, b_X10_bringBack_6, s_X10_bringBack_14, b_X10_bringBack_14, s_X10_bringBack_51, b_X10_bringBack_51, s_X10_bringBack_63, b_X10_bringBack_63, s_X10_bringBack_69, b_X10_bringBack_69, g_X10_19, g_X10_185, g_X10_103, G_X10_bringBack_98, sp_X10_put_e]
    exact hk ν hi
  | succ d ih =>
    intro e ν l5 h1 hi
    obtain ⟨i1, i2, i3, i4, i5⟩ := id hi
    have e1 : ν (9 + k) (s * 196 + (15 + (e : Int))) = μ (9 + k) (196 * s + (15 + (e : Int))) := by rw [i1 _ _ (by omega) (by omega) (by omega), Int.mul_comm]
    have e2 : ν (4 + s) (15 + (e : Int)) = μ (4 + s) (15 + (e : Int)) := by rw [i2, if_neg (by omega)]
    have e3 := m_sm_s (g := c_df1 μ k s) e 15
    obtain ⟨u, v, u0, u1, v0, v1, ep⟩ := c_p_ex (p := 15 + (e : Int)) (by omega)
    have r1 : q_r (μ (9 + k) (196 * s + (15 + (e : Int)))) ∧ q_r (μ (4 + s) (15 + (e : Int))) := by
      by_cases c : m_in w h u v
      · have a1 := him.2 u v c
        have a2 := hok.2.1.2 s u v hs.1 hs.2 c
        have a2 : m_vr (μ (4 + s) (c_p u v)) := a2
        rw [← ep] at a1 a2
        omega
      · have a := him.1 u v u0 u1 v0 v1 c
        rw [← ep] at a
        omega
    refine hR 60 b_X10_bringBack_6 6 _ _ _ o_X10_bringBack_6 ?_
    simp only [v_opt_n, v_opt_s, v_nil, v_iconst, v_bipush, v_sipush, v_lconst0, v_lconst1, v_ldc, v_ldcw, v_ldc2, v_iload0, v_iload1, v_iload2, v_iload3, v_iload, v_lload0, v_lload1, v_lload2, v_lload3, v_lload, v_aload0, v_aload1, v_aload2, v_aload3, v_aload, v_istore0, v_istore1, v_istore2, v_istore3, v_istore, v_lstore0, v_lstore1, v_lstore2, v_lstore3, v_lstore, v_astore0, v_astore1, v_astore2, v_astore3, v_astore, v_iinc, v_iadd, v_isub, v_imul, v_iand, v_ior, v_ixor, v_ishl, v_ishr, v_iushr, v_ineg, v_idiv, v_irem, v_ladd, v_lsub, v_lmul, v_lcmp, v_i2l, v_l2i, v_i2c, v_dup, v_dup2, v_if_eq, v_if_ne, v_if_lt, v_if_ge, v_if_gt, v_if_le, v_ic_eq, v_ic_ne, v_ic_lt, v_ic_ge, v_ic_gt, v_ic_le, v_goto, v_tsw, v_lsw, v_ireturn, v_areturn, v_return, v_iaload, v_laload, v_baload, v_caload, v_aaload, v_iastore, v_lastore, v_bastore, v_castore, v_alen, v_invvi, v_invst, v_invsp, e_int, e_lng, e_ref, e_lg0, e_lg1, e_lg2, e_lg3, e_lg4, e_lg5, e_lg6, e_lg7, e_lg8, e_lg9, e_lg10, e_lg11, e_lg12, e_lg13, e_clrI, e_clrJ, e_clrP, e_clrN, e_s0, e_s1, e_s2, e_s3, e_s4, e_s5, e_s6, e_s7, e_s8, e_s9, e_s10, e_s11, e_s12, e_s13, e_t0, e_t1, e_t2, e_t3, e_t4, e_t5, e_t6, e_t7, e_t8, e_t9, e_t10, e_t11, e_t12, e_t13, e_fd, e_kk, e_k0, e_k1, e_k2, e_k3, e_k4, e_k5, e_k6, e_k7, e_k8, e_k9, e_sv0, e_sv1, e_sv2, e_sv3, e_svc, e_pf0, e_pf1, e_pf2, e_pf3, e_ar, e_aa, e_al, e_sw1, e_sw2, e_ct0, e_ct1, e_ct2, e_cat0, e_cat1, e_rk0, e_rk1, e_rk2, e_inv0, e_inv1, e_inv2, e_inv3, e_inv4, e_inv5, e_inv6, e_o0, e_o1, e_cl, e_cle, e_cg, e_cge, e_ce, e_cr1, e_cr2, e_r, e_R, e_up, Int.cast_ofNat_Int, u_app, false_and, and_false, e_b0, e_b1, e_bn, e_bl, e_bu, Int.reduceLE, Int.reduceLT, Int.reduceEq, Int.reduceNeg, Int.reduceAdd, Int.reduceSub, Int.reduceMul, Nat.reduceLeDiff, Nat.reduceLT, Nat.reduceAdd, Nat.reduceEqDiff, true_and, and_true, true_or, or_true, false_or, or_false, forall_const, not_true_eq_false, not_false_eq_true, true_implies, false_implies, implies_true, and_self, zero_ne_one, one_ne_zero, eq_self, reduceIte, s_X10_bringBack_0, b_X10_bringBack_0, s_X10_bringBack_6, b_X10_bringBack_6, s_X10_bringBack_14, b_X10_bringBack_14, s_X10_bringBack_51, b_X10_bringBack_51, s_X10_bringBack_63, b_X10_bringBack_63, s_X10_bringBack_69, b_X10_bringBack_69, g_X10_19, g_X10_185, g_X10_103, G_X10_bringBack_98, sp_X10_put_e, T_3, T_8, tc, ti, e1, e2]
    have hi' : bb_in μ P w h n k s (15 + (e : Int)) ν := hi
    refine ⟨by omega, fun c => by omega, fun c => ⟨hk3.1, hk3.2, by omega, by omega, by omega, hs.1, hs.2, by omega, by omega, by omega, r1, fun q => ?_, fun q => ?_⟩⟩
    · have := ih (e + 1) ν (some (.inl (μ (9 + k) (196 * s + (15 + (e : Int)))))) (by omega) (by
        have := bb_skip hk3 hs (by omega) hi' q
        rw [show 15 + ((e + 1 : Nat) : Int) = 15 + (e : Int) + 1 by omega]
        exact this)
      rw [e3, show c_df1 μ k s (15 + (e : Int)) = 0 from if_pos q, Int.add_zero, show 15 + ((e + 1 : Nat) : Int) = 15 + (e : Int) + 1 by omega] at this
      exact this
    · have c2 : m_in w h u v := Classical.byContradiction fun c2 => by
        have a := him.1 u v u0 u1 v0 v1 c2
        rw [← ep] at a
        exact q (a.1.trans a.2.symm)
      have vr := him.2 u v c2
      rw [← ep] at vr
      have e39 : ν P 2 = n := (i1 P 2 (by omega) (by omega) (by omega)).trans hn
      refine ⟨hs, P, w, h, n, u, v, i3, e39, c2, ep, vr, i5, fun ν2 f g0 g1 g2 g3 => ?_⟩
      rw [ep] at f g0 q hi'
      have hp := bb_put hk3 hs c2 hi' q f g0 g1 g2 g3
      rw [← ep] at hp q
      have := ih (e + 1) ν2 (some (.inl (μ (9 + k) (196 * s + (15 + (e : Int)))))) (by omega) (by
        rw [show 15 + ((e + 1 : Nat) : Int) = 15 + (e : Int) + 1 by omega]
        exact hp)
      rw [e3, show c_df1 μ k s (15 + (e : Int)) = 1 from if_neg q, show 15 + ((e + 1 : Nat) : Int) = 15 + (e : Int) + 1 by omega] at this
      exact this
set_option maxRecDepth 100000 in
set_option maxHeartbeats 4000000 in
theorem B_X10_bringBack : q_Body cX10_bringBack 6 u_X10_bringBack fl_X10 ld_X10 G_X10_bringBack q_T 0 s_X10_bringBack sp_X10_bringBack := by
  intro S Rt hR ra μ h
  obtain ⟨this, k, sheet, rfl, h⟩ := sp_X10_bringBack_i h
  refine ⟨by simp [q_sl, q_ct], ?_⟩
  show S 0 [some (.inr (.inr this)), some (.inl k), some (.inl sheet), none, none, none] [] μ
  obtain ⟨rfl, hk3, hs, P, w, h9, n, hok, hn, h22, him, hk⟩ := h
  refine hR 60 [] 0 _ _ _ rfl ?_
  simp only [v_opt_n, v_opt_s, v_nil, v_iconst, v_bipush, v_sipush, v_lconst0, v_lconst1, v_ldc, v_ldcw, v_ldc2, v_iload0, v_iload1, v_iload2, v_iload3, v_iload, v_lload0, v_lload1, v_lload2, v_lload3, v_lload, v_aload0, v_aload1, v_aload2, v_aload3, v_aload, v_istore0, v_istore1, v_istore2, v_istore3, v_istore, v_lstore0, v_lstore1, v_lstore2, v_lstore3, v_lstore, v_astore0, v_astore1, v_astore2, v_astore3, v_astore, v_iinc, v_iadd, v_isub, v_imul, v_iand, v_ior, v_ixor, v_ishl, v_ishr, v_iushr, v_ineg, v_idiv, v_irem, v_ladd, v_lsub, v_lmul, v_lcmp, v_i2l, v_l2i, v_i2c, v_dup, v_dup2, v_if_eq, v_if_ne, v_if_lt, v_if_ge, v_if_gt, v_if_le, v_ic_eq, v_ic_ne, v_ic_lt, v_ic_ge, v_ic_gt, v_ic_le, v_goto, v_tsw, v_lsw, v_ireturn, v_areturn, v_return, v_iaload, v_laload, v_baload, v_caload, v_aaload, v_iastore, v_lastore, v_bastore, v_castore, v_alen, v_invvi, v_invst, v_invsp, e_int, e_lng, e_ref, e_lg0, e_lg1, e_lg2, e_lg3, e_lg4, e_lg5, e_lg6, e_lg7, e_lg8, e_lg9, e_lg10, e_lg11, e_lg12, e_lg13, e_clrI, e_clrJ, e_clrP, e_clrN, e_s0, e_s1, e_s2, e_s3, e_s4, e_s5, e_s6, e_s7, e_s8, e_s9, e_s10, e_s11, e_s12, e_s13, e_t0, e_t1, e_t2, e_t3, e_t4, e_t5, e_t6, e_t7, e_t8, e_t9, e_t10, e_t11, e_t12, e_t13, e_fd, e_kk, e_k0, e_k1, e_k2, e_k3, e_k4, e_k5, e_k6, e_k7, e_k8, e_k9, e_sv0, e_sv1, e_sv2, e_sv3, e_svc, e_pf0, e_pf1, e_pf2, e_pf3, e_ar, e_aa, e_al, e_sw1, e_sw2, e_ct0, e_ct1, e_ct2, e_cat0, e_cat1, e_rk0, e_rk1, e_rk2, e_inv0, e_inv1, e_inv2, e_inv3, e_inv4, e_inv5, e_inv6, e_o0, e_o1, e_cl, e_cle, e_cg, e_cge, e_ce, e_cr1, e_cr2, e_r, e_R, e_up, Int.cast_ofNat_Int, u_app, false_and, and_false, e_b0, e_b1, e_bn, e_bl, e_bu, Int.reduceLE, Int.reduceLT, Int.reduceEq, Int.reduceNeg, Int.reduceAdd, Int.reduceSub, Int.reduceMul, Nat.reduceLeDiff, Nat.reduceLT, Nat.reduceAdd, Nat.reduceEqDiff, true_and, and_true, true_or, or_true, false_or, or_false, forall_const, not_true_eq_false, not_false_eq_true, true_implies, false_implies, implies_true, and_self, zero_ne_one, one_ne_zero, eq_self, reduceIte, s_X10_bringBack_0, b_X10_bringBack_0, s_X10_bringBack_6, b_X10_bringBack_6, s_X10_bringBack_14, b_X10_bringBack_14, s_X10_bringBack_51, b_X10_bringBack_51, s_X10_bringBack_63, b_X10_bringBack_63, s_X10_bringBack_69, b_X10_bringBack_69, g_X10_19, g_X10_185, g_X10_103, G_X10_bringBack_98, sp_X10_put_e]
  exact bb_6 hR hk3 hs hok hn him hk 166 0 μ none (by omega) ⟨fun _ _ _ _ _ => rfl, fun j => by rw [if_neg (by omega)], hok, fun b t b0 b1 => ⟨fun q => ⟨q, fun x y hxy hl => by
    have e : c_p x y = (y + 1) * 14 + x + 1 := rfl
    omega⟩, fun q => q.1⟩, h22⟩
set_option maxRecDepth 100000 in
theorem C_X10_bringBack {l : Launch} {ad : Int → Nat} {D : va_G} {cy : Nat → ClassId} {Z : State → Prop} (hZ : q_Zg ad Z) : q_Ct l q_T q_N ad D cy Z yX10_bringBack cX10_bringBack 6 (some .int) rm_X10_bringBack sp_X10_bringBack := by
  obtain ⟨hf, hg, hld⟩ := q_chkS k_X10_bringBack
  refine q_met (rk := 0) q_wokT (by decide) rfl hf hg hld rfl (q_skS L_X10_bringBack o_X10_bringBack) ?_ ?_ ?_ ?_ B_X10_bringBack
  · intro i hi; exact absurd hi List.not_mem_nil
  · intro i hi
    have hi : i = 98 := by simpa [u_X10_bringBack] using hi
    rcases hi with rfl
    · exact q_crV hZ.1 (C_X10_put hZ) rv_X10_put cm_X10_put (by decide +kernel) (by decide +kernel) (by decide +kernel) (by decide +kernel) (by decide +kernel) ⟨rfl, rfl⟩ (by decide)
  · intro i hi; exact absurd hi List.not_mem_nil
  · intro i hi; exact absurd hi List.not_mem_nil
theorem rv_X10_bringBack : q_rcv q_T yX10_bringBack.cls sp_X10_bringBack := by
  intro ra μ K h
  obtain ⟨this, k, sheet, rfl, h⟩ := sp_X10_bringBack_i h
  obtain rfl := h.1
  exact ⟨[.inl sheet, .inl k], 0, 10, _, _, rfl, T_0, rfl, rfl⟩
theorem cm_X10_bringBack : Cond.code yX10_bringBack cX10_bringBack 6 (some .int) ∈ q_tb := by decide +kernel
/-- how many tellings the first sheets take -/
def c_bks (μ : QM) (k : Int) : Nat → Int
  | 0 => 0
  | s + 1 => c_bks μ k s + m_sm (c_df1 μ k (s : Int)) 166 15
def bk_in (μ : QM) (P w h n k S : Int) (ν : QM) : Prop := (∀ a j : Int, ¬ a = 21 → ¬ a = 22 → ¬ (4 ≤ a ∧ a < 4 + S) → ν a j = μ a j) ∧ (∀ s j : Int, 0 ≤ s → s < S → ν (4 + s) j = if 15 ≤ j ∧ j < 181 then μ (9 + k) (196 * s + j) else μ (4 + s) j) ∧ c_ok ν P w h n ∧ (∀ (b : Int) (t : Nat), 0 ≤ b → b < 10 → (q_bit (ν 21 b) t = true ↔ q_bit (μ 21 b) t = true ∧ ∀ s x y : Int, 0 ≤ s → s < S → m_in w h x y → ¬ μ (9 + k) (196 * s + c_p x y) = μ (4 + s) (c_p x y) → c_fr μ P w h b t s (c_ti x y) = 0)) ∧ (∀ j : Int, 0 ≤ j → j < 10 → q_mk (ν 22 j))
def sp_X10_back : QP := fun ra μ K => match ra with
  | [.inl k, .inr (.inr this)] => this = 0 ∧ q_r k ∧ (¬ (0 ≤ k ∧ k < 3) → K (some (.inl (-1))) (q_up μ 0 8 (-1))) ∧ (0 ≤ k ∧ k < 3 → (μ 12 k = 0 ∧ K (some (.inl (-6))) (q_up μ 0 8 (-6))) ∨ (μ 12 k = 1 ∧ ∃ P w h n : Int, c_ok μ P w h n ∧ μ P 2 = n ∧ (∀ j : Int, 0 ≤ j → j < 10 → q_mk (μ 22 j)) ∧ (∀ s : Int, 0 ≤ s → s < 4 → c_img μ w h k s) ∧ ∀ ν : QM, bk_in μ P w h n k 4 ν → K (some (.inl (c_bks μ k 4))) (q_up ν 0 8 0)))
  | _ => False
theorem sp_X10_back_e (this k : Int) (μ : QM) (K : Option QV → QM → Prop) : sp_X10_back [.inl k, .inr (.inr this)] μ K = (this = 0 ∧ q_r k ∧ (¬ (0 ≤ k ∧ k < 3) → K (some (.inl (-1))) (q_up μ 0 8 (-1))) ∧ (0 ≤ k ∧ k < 3 → (μ 12 k = 0 ∧ K (some (.inl (-6))) (q_up μ 0 8 (-6))) ∨ (μ 12 k = 1 ∧ ∃ P w h n : Int, c_ok μ P w h n ∧ μ P 2 = n ∧ (∀ j : Int, 0 ≤ j → j < 10 → q_mk (μ 22 j)) ∧ (∀ s : Int, 0 ≤ s → s < 4 → c_img μ w h k s) ∧ ∀ ν : QM, bk_in μ P w h n k 4 ν → K (some (.inl (c_bks μ k 4))) (q_up ν 0 8 0)))) := propext Iff.rfl
theorem sp_X10_back_i {ra : List QV} {μ : QM} {K : Option QV → QM → Prop} (h : sp_X10_back ra μ K) : ∃ this k : Int, ra = [.inl k, .inr (.inr this)] ∧ (this = 0 ∧ q_r k ∧ (¬ (0 ≤ k ∧ k < 3) → K (some (.inl (-1))) (q_up μ 0 8 (-1))) ∧ (0 ≤ k ∧ k < 3 → (μ 12 k = 0 ∧ K (some (.inl (-6))) (q_up μ 0 8 (-6))) ∨ (μ 12 k = 1 ∧ ∃ P w h n : Int, c_ok μ P w h n ∧ μ P 2 = n ∧ (∀ j : Int, 0 ≤ j → j < 10 → q_mk (μ 22 j)) ∧ (∀ s : Int, 0 ≤ s → s < 4 → c_img μ w h k s) ∧ ∀ ν : QM, bk_in μ P w h n k 4 ν → K (some (.inl (c_bks μ k 4))) (q_up ν 0 8 0)))) := by
  unfold sp_X10_back at h
  split at h
  · exact ⟨_, _, rfl, h⟩
  · exact h.elim
def rm_X10_back : Room := { frames := 6, cells := 0, slots := 0, locals := 140 }
def G_X10_back : Nat → Nat × QP := fun i => match i with
  | 69 => (2, sp_X10_refuse)
  | 161 => (3, sp_X10_bringBack)
  | 81 => (2, sp_X10_accept)
  | 151 => (1, sp_X10_isImage)
  | _ => (0, fun _ _ _ => False)
theorem G_X10_back_69 : G_X10_back 69 = (2, sp_X10_refuse) := id rfl
theorem G_X10_back_161 : G_X10_back 161 = (3, sp_X10_bringBack) := id rfl
theorem G_X10_back_81 : G_X10_back 81 = (2, sp_X10_accept) := id rfl
theorem G_X10_back_151 : G_X10_back 151 = (1, sp_X10_isImage) := id rfl
theorem bk_36 {Rt : Option QV → QM → Prop} {S : Nat → QL → List QV → QM → Prop} (hR : q_Rule cX10_back 4 u_X10_back fl_X10 ld_X10 G_X10_back q_T 0 s_X10_back Rt S) {μ : QM} {P w h n k : Int} (hk3 : 0 ≤ k ∧ k < 3) (hok : c_ok μ P w h n) (hn : μ P 2 = n) (him : ∀ s : Int, 0 ≤ s → s < 4 → c_img μ w h k s) (hk : ∀ ν : QM, bk_in μ P w h n k 4 ν → Rt (some (.inl (c_bks μ k 4))) (q_up ν 0 8 0)) : ∀ (d e : Nat) (ν : QM), e + d = 4 → bk_in μ P w h n k e ν → S 36 [some (.inr (.inr 0)), some (.inl k), some (.inl (c_bks μ k e)), some (.inl (e : Int))] [] ν := by
  intro d
  have hP := hok.1.1
  have hd := hok.1.2.2.1
  have hnn := hok.1.2.2.2.2.2.2.2.1
  induction d with
  | zero =>
    intro e ν h1 hi
    obtain rfl : e = 4 := by omega
    refine hR 60 b_X10_back_36 36 _ _ _ o_X10_back_36 ?_
    simp only [v_opt_n, v_opt_s, v_nil, v_iconst, v_bipush, v_sipush, v_lconst0, v_lconst1, v_ldc, v_ldcw, v_ldc2, v_iload0, v_iload1, v_iload2, v_iload3, v_iload, v_lload0, v_lload1, v_lload2, v_lload3, v_lload, v_aload0, v_aload1, v_aload2, v_aload3, v_aload, v_istore0, v_istore1, v_istore2, v_istore3, v_istore, v_lstore0, v_lstore1, v_lstore2, v_lstore3, v_lstore, v_astore0, v_astore1, v_astore2, v_astore3, v_astore, v_iinc, v_iadd, v_isub, v_imul, v_iand, v_ior, v_ixor, v_ishl, v_ishr, v_iushr, v_ineg, v_idiv, v_irem, v_ladd, v_lsub, v_lmul, v_lcmp, v_i2l, v_l2i, v_i2c, v_dup, v_dup2, v_if_eq, v_if_ne, v_if_lt, v_if_ge, v_if_gt, v_if_le, v_ic_eq, v_ic_ne, v_ic_lt, v_ic_ge, v_ic_gt, v_ic_le, v_goto, v_tsw, v_lsw, v_ireturn, v_areturn, v_return, v_iaload, v_laload, v_baload, v_caload, v_aaload, v_iastore, v_lastore, v_bastore, v_castore, v_alen, v_invvi, v_invst, v_invsp, e_int, e_lng, e_ref, e_lg0, e_lg1, e_lg2, e_lg3, e_lg4, e_lg5, e_lg6, e_lg7, e_lg8, e_lg9, e_lg10, e_lg11, e_lg12, e_lg13, e_clrI, e_clrJ, e_clrP, e_clrN, e_s0, e_s1, e_s2, e_s3, e_s4, e_s5, e_s6, e_s7, e_s8, e_s9, e_s10, e_s11, e_s12, e_s13, e_t0, e_t1, e_t2, e_t3, e_t4, e_t5, e_t6, e_t7, e_t8, e_t9, e_t10, e_t11, e_t12, e_t13, e_fd, e_kk, e_k0, e_k1, e_k2, e_k3, e_k4, e_k5, e_k6, e_k7, e_k8, e_k9, e_sv0, e_sv1, e_sv2, e_sv3, e_svc, e_pf0, e_pf1, e_pf2, e_pf3, e_ar, e_aa, e_al, e_sw1, e_sw2, e_ct0, e_ct1, e_ct2, e_cat0, e_cat1, e_rk0, e_rk1, e_rk2, e_inv0, e_inv1, e_inv2, e_inv3, e_inv4, e_inv5, e_inv6, e_o0, e_o1, e_cl, e_cle, e_cg, e_cge, e_ce, e_cr1, e_cr2, e_r, e_R, e_up, Int.cast_ofNat_Int, u_app, false_and, and_false, e_b0, e_b1, e_bn, e_bl, e_bu, Int.reduceLE, Int.reduceLT, Int.reduceEq, Int.reduceNeg, Int.reduceAdd, Int.reduceSub, Int.reduceMul, Nat.reduceLeDiff, Nat.reduceLT, Nat.reduceAdd, Nat.reduceEqDiff, true_and, and_true, true_or, or_true, false_or, or_false, forall_const, not_true_eq_false, not_false_eq_true, true_implies, false_implies, implies_true, and_self, zero_ne_one, one_ne_zero, eq_self, reduceIte, s_X10_back_0, b_X10_back_0, s_X10_back_7, b_X10_back_7, s_X10_back_13, b_X10_back_13, s_X10_back_25, b_X10_back_25, s_X10_back_32, b_X10_back_32, s_X10_back_36, b_X10_back_36, s_X10_back_41, b_X10_back_41, s_X10_back_56, b_X10_back_56, g_X10_19, g_X10_157, G_X10_back_69, sp_X10_refuse_e, G_X10_back_161, sp_X10_bringBack_e, G_X10_back_81, sp_X10_accept_e, G_X10_back_151, sp_X10_isImage_e]
    exact hk ν hi
  | succ d ih =>
    intro e ν h1 hi
    obtain ⟨i1, i2, i3, i4, i5⟩ := id hi
    have f9 : ∀ j : Int, ν (9 + k) j = μ (9 + k) j := fun j => i1 _ j (by omega) (by omega) (by omega)
    have f4 : ∀ j : Int, ν (4 + (e : Int)) j = μ (4 + (e : Int)) j := fun j => i1 _ j (by omega) (by omega) (by omega)
    have ed : c_df1 ν k (e : Int) = c_df1 μ k (e : Int) := funext fun p => by
      show (if ν (9 + k) (196 * (e : Int) + p) = ν (4 + (e : Int)) p then (0 : Int) else 1) = _
      rw [f9, f4]
    have him' : c_img ν w h k e := ⟨fun u v a b c d q => by rw [f9, f4]; exact (him e (by omega) (by omega)).1 u v a b c d q, fun u v q => by rw [f9]; exact (him e (by omega) (by omega)).2 u v q⟩
    have e39 : ν P 2 = n := (i1 P 2 (by omega) (by omega) (by omega)).trans hn
    refine hR 60 b_X10_back_36 36 _ _ _ o_X10_back_36 ?_
    simp only [v_opt_n, v_opt_s, v_nil, v_iconst, v_bipush, v_sipush, v_lconst0, v_lconst1, v_ldc, v_ldcw, v_ldc2, v_iload0, v_iload1, v_iload2, v_iload3, v_iload, v_lload0, v_lload1, v_lload2, v_lload3, v_lload, v_aload0, v_aload1, v_aload2, v_aload3, v_aload, v_istore0, v_istore1, v_istore2, v_istore3, v_istore, v_lstore0, v_lstore1, v_lstore2, v_lstore3, v_lstore, v_astore0, v_astore1, v_astore2, v_astore3, v_astore, v_iinc, v_iadd, v_isub, v_imul, v_iand, v_ior, v_ixor, v_ishl, v_ishr, v_iushr, v_ineg, v_idiv, v_irem, v_ladd, v_lsub, v_lmul, v_lcmp, v_i2l, v_l2i, v_i2c, v_dup, v_dup2, v_if_eq, v_if_ne, v_if_lt, v_if_ge, v_if_gt, v_if_le, v_ic_eq, v_ic_ne, v_ic_lt, v_ic_ge, v_ic_gt, v_ic_le, v_goto, v_tsw, v_lsw, v_ireturn, v_areturn, v_return, v_iaload, v_laload, v_baload, v_caload, v_aaload, v_iastore, v_lastore, v_bastore, v_castore, v_alen, v_invvi, v_invst, v_invsp, e_int, e_lng, e_ref, e_lg0, e_lg1, e_lg2, e_lg3, e_lg4, e_lg5, e_lg6, e_lg7, e_lg8, e_lg9, e_lg10, e_lg11, e_lg12, e_lg13, e_clrI, e_clrJ, e_clrP, e_clrN, e_s0, e_s1, e_s2, e_s3, e_s4, e_s5, e_s6, e_s7, e_s8, e_s9, e_s10, e_s11, e_s12, e_s13, e_t0, e_t1, e_t2, e_t3, e_t4, e_t5, e_t6, e_t7, e_t8, e_t9, e_t10, e_t11, e_t12, e_t13, e_fd, e_kk, e_k0, e_k1, e_k2, e_k3, e_k4, e_k5, e_k6, e_k7, e_k8, e_k9, e_sv0, e_sv1, e_sv2, e_sv3, e_svc, e_pf0, e_pf1, e_pf2, e_pf3, e_ar, e_aa, e_al, e_sw1, e_sw2, e_ct0, e_ct1, e_ct2, e_cat0, e_cat1, e_rk0, e_rk1, e_rk2, e_inv0, e_inv1, e_inv2, e_inv3, e_inv4, e_inv5, e_inv6, e_o0, e_o1, e_cl, e_cle, e_cg, e_cge, e_ce, e_cr1, e_cr2, e_r, e_R, e_up, Int.cast_ofNat_Int, u_app, false_and, and_false, e_b0, e_b1, e_bn, e_bl, e_bu, Int.reduceLE, Int.reduceLT, Int.reduceEq, Int.reduceNeg, Int.reduceAdd, Int.reduceSub, Int.reduceMul, Nat.reduceLeDiff, Nat.reduceLT, Nat.reduceAdd, Nat.reduceEqDiff, true_and, and_true, true_or, or_true, false_or, or_false, forall_const, not_true_eq_false, not_false_eq_true, true_implies, false_implies, implies_true, and_self, zero_ne_one, one_ne_zero, eq_self, reduceIte, s_X10_back_0, b_X10_back_0, s_X10_back_7, b_X10_back_7, s_X10_back_13, b_X10_back_13, s_X10_back_25, b_X10_back_25, s_X10_back_32, b_X10_back_32, s_X10_back_36, b_X10_back_36, s_X10_back_41, b_X10_back_41, s_X10_back_56, b_X10_back_56, g_X10_19, g_X10_157, G_X10_back_69, sp_X10_refuse_e, G_X10_back_161, sp_X10_bringBack_e, G_X10_back_81, sp_X10_accept_e, G_X10_back_151, sp_X10_isImage_e]
    refine ⟨by omega, fun c => by omega, fun c => ⟨hk3, by omega, P, w, h, n, i3, e39, i5, him', fun ν2 hb => ?_⟩⟩
    rw [ed]
    obtain ⟨b1, b2, b3, b4, b5⟩ := hb
    have := ih (e + 1) ν2 (by omega) ⟨fun a j n1 n2 n3 => (b1 a j n1 n2 (by omega)).trans (i1 a j n1 n2 (by omega)), fun s j s0 s1 => ?_, b3, fun b t b0 b1' => ?_, b5⟩
    · rw [show ((e + 1 : Nat) : Int) = (e : Int) + 1 by omega] at this
      exact this
    · by_cases q : s = e
      · subst q
        rw [b2, f9, f4]
      · rw [b1 _ _ (by omega) (by omega) (by omega)]
        exact i2 s j s0 (by omega)
    · have hfr : ∀ s T : Int, 0 ≤ s → s < 4 → b < n → c_fr ν P w h b t s T = c_fr μ P w h b t s T := fun s T s0 s1 hb => c_fr_cg hP hnn.2 ⟨s0, s1⟩ (fun a j a0 a1 => i1 a j (by omega) (by omega) (by omega)) hb
      rw [b4 b t b0 b1', i4 b t b0 b1']
      constructor
      · rintro ⟨⟨q1, q2⟩, q3⟩
        refine ⟨q1, fun s x y s0 s1 hxy hne => ?_⟩
        by_cases q : s = e
        · subst q
          have hbn := (i3.2.2.1.2.1 b t b0 b1' ((i4 b t b0 b1').mpr ⟨q1, q2⟩)).1
          have e9 : c_p x y = (y + 1) * 14 + x + 1 := rfl
          rw [← hfr _ _ (by omega) (by omega) hbn]
          exact q3 x y hxy (by omega) (by rw [f9, f4]; exact hne)
        · exact q2 s x y s0 (by omega) hxy hne
      · rintro ⟨q1, q2⟩
        have q4 : q_bit (μ 21 b) t = true ∧ ∀ s x y : Int, 0 ≤ s → s < e → m_in w h x y → ¬ μ (9 + k) (196 * s + c_p x y) = μ (4 + s) (c_p x y) → c_fr μ P w h b t s (c_ti x y) = 0 := ⟨q1, fun s x y s0 s1 hxy hne => q2 s x y s0 (by omega) hxy hne⟩
        have hbn := (i3.2.2.1.2.1 b t b0 b1' ((i4 b t b0 b1').mpr q4)).1
        refine ⟨q4, fun x y hxy _ hne => ?_⟩
        rw [f9, f4] at hne
        rw [hfr _ _ (by omega) (by omega) hbn]
        exact q2 e x y (by omega) (by omega) hxy hne
set_option maxRecDepth 100000 in
set_option maxHeartbeats 4000000 in
theorem B_X10_back : q_Body cX10_back 4 u_X10_back fl_X10 ld_X10 G_X10_back q_T 0 s_X10_back sp_X10_back := by
  intro S Rt hR ra μ h
  obtain ⟨this, k, rfl, h⟩ := sp_X10_back_i h
  refine ⟨by simp [q_sl, q_ct], ?_⟩
  show S 0 [some (.inr (.inr this)), some (.inl k), none, none] [] μ
  obtain ⟨rfl, h1, hk0, hk⟩ := h
  refine hR 60 [] 0 _ _ _ rfl ?_
  simp only [v_opt_n, v_opt_s, v_nil, v_iconst, v_bipush, v_sipush, v_lconst0, v_lconst1, v_ldc, v_ldcw, v_ldc2, v_iload0, v_iload1, v_iload2, v_iload3, v_iload, v_lload0, v_lload1, v_lload2, v_lload3, v_lload, v_aload0, v_aload1, v_aload2, v_aload3, v_aload, v_istore0, v_istore1, v_istore2, v_istore3, v_istore, v_lstore0, v_lstore1, v_lstore2, v_lstore3, v_lstore, v_astore0, v_astore1, v_astore2, v_astore3, v_astore, v_iinc, v_iadd, v_isub, v_imul, v_iand, v_ior, v_ixor, v_ishl, v_ishr, v_iushr, v_ineg, v_idiv, v_irem, v_ladd, v_lsub, v_lmul, v_lcmp, v_i2l, v_l2i, v_i2c, v_dup, v_dup2, v_if_eq, v_if_ne, v_if_lt, v_if_ge, v_if_gt, v_if_le, v_ic_eq, v_ic_ne, v_ic_lt, v_ic_ge, v_ic_gt, v_ic_le, v_goto, v_tsw, v_lsw, v_ireturn, v_areturn, v_return, v_iaload, v_laload, v_baload, v_caload, v_aaload, v_iastore, v_lastore, v_bastore, v_castore, v_alen, v_invvi, v_invst, v_invsp, e_int, e_lng, e_ref, e_lg0, e_lg1, e_lg2, e_lg3, e_lg4, e_lg5, e_lg6, e_lg7, e_lg8, e_lg9, e_lg10, e_lg11, e_lg12, e_lg13, e_clrI, e_clrJ, e_clrP, e_clrN, e_s0, e_s1, e_s2, e_s3, e_s4, e_s5, e_s6, e_s7, e_s8, e_s9, e_s10, e_s11, e_s12, e_s13, e_t0, e_t1, e_t2, e_t3, e_t4, e_t5, e_t6, e_t7, e_t8, e_t9, e_t10, e_t11, e_t12, e_t13, e_fd, e_kk, e_k0, e_k1, e_k2, e_k3, e_k4, e_k5, e_k6, e_k7, e_k8, e_k9, e_sv0, e_sv1, e_sv2, e_sv3, e_svc, e_pf0, e_pf1, e_pf2, e_pf3, e_ar, e_aa, e_al, e_sw1, e_sw2, e_ct0, e_ct1, e_ct2, e_cat0, e_cat1, e_rk0, e_rk1, e_rk2, e_inv0, e_inv1, e_inv2, e_inv3, e_inv4, e_inv5, e_inv6, e_o0, e_o1, e_cl, e_cle, e_cg, e_cge, e_ce, e_cr1, e_cr2, e_r, e_R, e_up, Int.cast_ofNat_Int, u_app, false_and, and_false, e_b0, e_b1, e_bn, e_bl, e_bu, Int.reduceLE, Int.reduceLT, Int.reduceEq, Int.reduceNeg, Int.reduceAdd, Int.reduceSub, Int.reduceMul, Nat.reduceLeDiff, Nat.reduceLT, Nat.reduceAdd, Nat.reduceEqDiff, true_and, and_true, true_or, or_true, false_or, or_false, forall_const, not_true_eq_false, not_false_eq_true, true_implies, false_implies, implies_true, and_self, zero_ne_one, one_ne_zero, eq_self, reduceIte, s_X10_back_0, b_X10_back_0, s_X10_back_7, b_X10_back_7, s_X10_back_13, b_X10_back_13, s_X10_back_25, b_X10_back_25, s_X10_back_32, b_X10_back_32, s_X10_back_36, b_X10_back_36, s_X10_back_41, b_X10_back_41, s_X10_back_56, b_X10_back_56, g_X10_19, g_X10_157, G_X10_back_69, sp_X10_refuse_e, G_X10_back_161, sp_X10_bringBack_e, G_X10_back_81, sp_X10_accept_e, G_X10_back_151, sp_X10_isImage_e, T_12]
  refine ⟨h1, fun c => ?_, fun c => hk0 c⟩
  have c := Classical.not_not.mp c
  rcases hk c with ⟨q1, q2⟩ | ⟨q1, P, w, h9, n, hok, hn, h22, him, hk⟩
  · rw [q1]
    refine ⟨c.1, c.2, by omega, fun q => absurd rfl q, fun _ => q2⟩
  · rw [q1]
    refine ⟨c.1, c.2, by omega, fun _ => ?_, fun q => by omega⟩
    exact bk_36 hR c hok hn him hk 4 0 μ (by omega) ⟨fun _ _ _ _ _ => rfl, fun s j s0 s1 => by omega, hok, fun b t b0 b1 => ⟨fun q => ⟨q, fun s x y s0 s1 => by omega⟩, fun q => q.1⟩, h22⟩
set_option maxRecDepth 100000 in
theorem C_X10_back {l : Launch} {ad : Int → Nat} {D : va_G} {cy : Nat → ClassId} {Z : State → Prop} (hZ : q_Zg ad Z) : q_Ct l q_T q_N ad D cy Z yX10_back cX10_back 4 (some .int) rm_X10_back sp_X10_back := by
  obtain ⟨hf, hg, hld⟩ := q_chkS k_X10_back
  refine q_met (rk := 0) q_wokT (by decide) rfl hf hg hld rfl (q_skS L_X10_back o_X10_back) ?_ ?_ ?_ ?_ B_X10_back
  · intro i hi; exact absurd hi List.not_mem_nil
  · intro i hi
    have hi : i = 69 ∨ i = 161 ∨ i = 81 := by simpa [u_X10_back] using hi
    rcases hi with rfl | rfl | rfl
    · exact q_crV hZ.1 (C_X10_refuse hZ) rv_X10_refuse cm_X10_refuse (by decide +kernel) (by decide +kernel) (by decide +kernel) (by decide +kernel) (by decide +kernel) ⟨rfl, rfl⟩ (by decide)
    · exact q_crV hZ.1 (C_X10_bringBack hZ) rv_X10_bringBack cm_X10_bringBack (by decide +kernel) (by decide +kernel) (by decide +kernel) (by decide +kernel) (by decide +kernel) ⟨rfl, rfl⟩ (by decide)
    · exact q_crV hZ.1 (C_X10_accept hZ) rv_X10_accept cm_X10_accept (by decide +kernel) (by decide +kernel) (by decide +kernel) (by decide +kernel) (by decide +kernel) ⟨rfl, rfl⟩ (by decide)
  · intro i hi
    have hi : i = 151 := by simpa [u_X10_back] using hi
    rcases hi with rfl
    · exact q_crS hZ.1 (C_X10_isImage hZ) cm_X10_isImage (by decide +kernel) (by decide +kernel) (by decide +kernel) (by decide +kernel) ⟨rfl, rfl⟩ (by decide)
  · intro i hi; exact absurd hi List.not_mem_nil
theorem rv_X10_back : q_rcv q_T yX10_back.cls sp_X10_back := by
  intro ra μ K h
  obtain ⟨this, k, rfl, h⟩ := sp_X10_back_i h
  obtain rfl := h.1
  exact ⟨[.inl k], 0, 10, _, _, rfl, T_0, rfl, rfl⟩
theorem cm_X10_back : Cond.code yX10_back cX10_back 4 (some .int) ∈ q_tb := by decide +kernel

