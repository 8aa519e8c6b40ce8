/-! the reference: what flows down -/
abbrev m_sx (d : Int) : Int := if d = 0 then 1 else if d = 2 then -1 else 0
abbrev m_sy (d : Int) : Int := if d = 1 then 1 else if d = 3 then -1 else 0
def m_fls (w h : Int) (A : Int → Int → Int) (x y d : Int) (s : Int × Int) : Int × Int := if m_in w h (x + m_sx d) (y + m_sy d) ∧ ¬ A (x + m_sx d) (y + m_sy d) = -2000000000 ∧ A (x + m_sx d) (y + m_sy d) < s.1 then (A (x + m_sx d) (y + m_sy d), 12 * (y + m_sy d) + (x + m_sx d)) else s
def m_fln (w h : Int) (A : Int → Int → Int) (x y : Int) : Nat → Int × Int
  | 0 => (A x y, -1)
  | n + 1 => m_fls w h A x y (n : Int) (m_fln w h A x y n)
/-- the cell that a cell flows to, or none -/
def m_dn (w h : Int) (A : Int → Int → Int) (x y : Int) : Int := (m_fln w h A x y 4).2
theorem m_fln_ok {w h : Int} {A : Int → Int → Int} {x y : Int} : ∀ n, ((m_fln w h A x y n).1 = A x y ∧ (m_fln w h A x y n).2 = -1) ∨ ∃ u v : Int, m_in w h u v ∧ ¬ A u v = -2000000000 ∧ A u v < A x y ∧ (m_fln w h A x y n).1 = A u v ∧ (m_fln w h A x y n).2 = 12 * v + u
  | 0 => Or.inl ⟨rfl, rfl⟩
  | n + 1 => by
    have ih := m_fln_ok (w := w) (h := h) (A := A) (x := x) (y := y) n
    show ((m_fls w h A x y (n : Int) (m_fln w h A x y n)).1 = A x y ∧ (m_fls w h A x y (n : Int) (m_fln w h A x y n)).2 = -1) ∨ ∃ u v : Int, m_in w h u v ∧ ¬ A u v = -2000000000 ∧ A u v < A x y ∧ (m_fls w h A x y (n : Int) (m_fln w h A x y n)).1 = A u v ∧ (m_fls w h A x y (n : Int) (m_fln w h A x y n)).2 = 12 * v + u
    unfold m_fls
    by_cases c : m_in w h (x + m_sx n) (y + m_sy n) ∧ ¬ A (x + m_sx n) (y + m_sy n) = -2000000000 ∧ A (x + m_sx n) (y + m_sy n) < (m_fln w h A x y n).1
    · rw [if_pos c]
      refine Or.inr ⟨_, _, c.1, c.2.1, ?_, rfl, rfl⟩
      rcases ih with ⟨e1, _⟩ | ⟨u, v, _, _, e1, e2, _⟩
      · have := c.2.2; omega
      · have := c.2.2; omega
    · rw [if_neg c]
      exact ih
theorem m_dn_ok {w h : Int} {A : Int → Int → Int} {x y : Int} : m_dn w h A x y = -1 ∨ ∃ u v : Int, m_in w h u v ∧ ¬ A u v = -2000000000 ∧ A u v < A x y ∧ m_dn w h A x y = 12 * v + u := by
  rcases m_fln_ok (w := w) (h := h) (A := A) (x := x) (y := y) 4 with ⟨_, e⟩ | ⟨u, v, e1, e2, e3, _, e5⟩
  · exact Or.inl e
  · exact Or.inr ⟨u, v, e1, e2, e3, e5⟩
def sp_X11_flowOf : QP := fun ra μ K => match ra with
  | [.inl y, .inl x, .inl of, .inr (.inr this)] => this = 85 ∧ (0 ≤ of ∧ of < 10) ∧ m_dim (μ 85 2) (μ 85 3) ∧ m_in (μ 85 2) (μ 85 3) x y ∧ (∀ u v : Int, m_in (μ 85 2) (μ 85 3) u v → m_vr (μ 96 (144 * of + 12 * v + u))) ∧ K (some (.inl (m_dn (μ 85 2) (μ 85 3) (m_at μ of) x y))) μ
  | _ => False
theorem sp_X11_flowOf_e (this of x y : Int) (μ : QM) (K : Option QV → QM → Prop) : sp_X11_flowOf [.inl y, .inl x, .inl of, .inr (.inr this)] μ K = (this = 85 ∧ (0 ≤ of ∧ of < 10) ∧ m_dim (μ 85 2) (μ 85 3) ∧ m_in (μ 85 2) (μ 85 3) x y ∧ (∀ u v : Int, m_in (μ 85 2) (μ 85 3) u v → m_vr (μ 96 (144 * of + 12 * v + u))) ∧ K (some (.inl (m_dn (μ 85 2) (μ 85 3) (m_at μ of) x y))) μ) := propext Iff.rfl
theorem sp_X11_flowOf_i {ra : List QV} {μ : QM} {K : Option QV → QM → Prop} (h : sp_X11_flowOf ra μ K) : ∃ this of x y : Int, ra = [.inl y, .inl x, .inl of, .inr (.inr this)] ∧ (this = 85 ∧ (0 ≤ of ∧ of < 10) ∧ m_dim (μ 85 2) (μ 85 3) ∧ m_in (μ 85 2) (μ 85 3) x y ∧ (∀ u v : Int, m_in (μ 85 2) (μ 85 3) u v → m_vr (μ 96 (144 * of + 12 * v + u))) ∧ K (some (.inl (m_dn (μ 85 2) (μ 85 3) (m_at μ of) x y))) μ) := by
  unfold sp_X11_flowOf at h
  split at h
  · exact ⟨_, _, _, _, rfl, h⟩
  · exact h.elim
def rm_X11_flowOf : Room := { frames := 2, cells := 0, slots := 0, locals := 47 }
def G_X11_flowOf : Nat → Nat × QP := fun i => match i with
  | 189 => (4, sp_X11_at)
  | 113 => (3, sp_X11_isCell)
  | 206 => (1, sp_X11_stepX)
  | 209 => (1, sp_X11_stepY)
  | _ => (0, fun _ _ _ => False)
theorem G_X11_flowOf_189 : G_X11_flowOf 189 = (4, sp_X11_at) := id rfl
theorem G_X11_flowOf_113 : G_X11_flowOf 113 = (3, sp_X11_isCell) := id rfl
theorem G_X11_flowOf_206 : G_X11_flowOf 206 = (1, sp_X11_stepX) := id rfl
theorem G_X11_flowOf_209 : G_X11_flowOf 209 = (1, sp_X11_stepY) := id rfl
set_option maxRecDepth 100000 in
set_option maxHeartbeats 4000000 in
theorem flowOf_d {Rt : Option QV → QM → Prop} {S : Nat → QL → List QV → QM → Prop} (hR : q_Rule cX11_flowOf 9 u_X11_flowOf fl_X11 ld_X11 G_X11_flowOf q_T 0 s_X11_flowOf Rt S) {μ : QM} {w h of x y : Int} (ew : μ 85 2 = w) (eh : μ 85 3 = h) (hd : m_dim w h) (ho : 0 ≤ of ∧ of < 10) (hxy : m_in w h x y) (hv : ∀ u v : Int, m_in w h u v → m_vr (μ 96 (144 * of + 12 * v + u))) (hk : Rt (some (.inl (m_fln w h (m_at μ of) x y 4).2)) μ) :
    ∀ (e d : Nat) (l7 l8 : Option QV), d + e = 4 → S 15 [some (.inr (.inr 85)), some (.inl of), some (.inl x), some (.inl y), some (.inl (m_fln w h (m_at μ of) x y d).2), some (.inl (m_fln w h (m_at μ of) x y d).1), some (.inl (d : Int)), l7, l8] [] μ := by
  intro e
  induction e with
  | zero =>
    intro d l7 l8 h1
    obtain rfl : d = 4 := by omega
    refine hR 60 b_X11_flowOf_15 15 _ _ _ o_X11_flowOf_15 ?_
    simp only [v_opt_n, v_opt_s, v_nil, v_iconst, v_bipush, v_sipush, v_lconst0, v_lconst1, v_ldc, v_ldcw, v_ldc2, v_iload0, v_iload1, v_iload2, v_iload3, v_iload, v_lload0, v_lload1, v_lload2, v_lload3, v_lload, v_aload0, v_aload1, v_aload2, v_aload3, v_aload, v_istore0, v_istore1, v_istore2, v_istore3, v_istore, v_lstore0, v_lstore1, v_lstore2, v_lstore3, v_lstore, v_astore0, v_astore1, v_astore2, v_astore3, v_astore, v_iinc, v_iadd, v_isub, v_imul, v_iand, v_ior, v_ixor, v_ishl, v_ishr, v_iushr, v_ineg, v_idiv, v_irem, v_ladd, v_lsub, v_lmul, v_lcmp, v_i2l, v_l2i, v_i2c, v_dup, v_dup2, v_if_eq, v_if_ne, v_if_lt, v_if_ge, v_if_gt, v_if_le, v_ic_eq, v_ic_ne, v_ic_lt, v_ic_ge, v_ic_gt, v_ic_le, v_goto, v_tsw, v_lsw, v_ireturn, v_areturn, v_return, v_iaload, v_laload, v_baload, v_caload, v_aaload, v_iastore, v_lastore, v_bastore, v_castore, v_alen, v_invvi, v_invst, v_invsp, e_int, e_lng, e_ref, e_lg0, e_lg1, e_lg2, e_lg3, e_lg4, e_lg5, e_lg6, e_lg7, e_lg8, e_lg9, e_lg10, e_lg11, e_lg12, e_lg13, e_clrI, e_clrJ, e_clrP, e_clrN, e_s0, e_s1, e_s2, e_s3, e_s4, e_s5, e_s6, e_s7, e_s8, e_s9, e_s10, e_s11, e_s12, e_s13, e_t0, e_t1, e_t2, e_t3, e_t4, e_t5, e_t6, e_t7, e_t8, e_t9, e_t10, e_t11, e_t12, e_t13, e_fd, e_kk, e_k0, e_k1, e_k2, e_k3, e_k4, e_k5, e_k6, e_k7, e_k8, e_k9, e_sv0, e_sv1, e_sv2, e_sv3, e_svc, e_pf0, e_pf1, e_pf2, e_pf3, e_ar, e_aa, e_al, e_sw1, e_sw2, e_ct0, e_ct1, e_ct2, e_cat0, e_cat1, e_rk0, e_rk1, e_rk2, e_inv0, e_inv1, e_inv2, e_inv3, e_inv4, e_inv5, e_inv6, e_o0, e_o1, e_cl, e_cle, e_cg, e_cge, e_ce, e_cr1, e_cr2, e_r, e_R, e_up, Int.cast_ofNat_Int, u_app, false_and, and_false, e_b0, e_b1, e_bn, e_bl, e_bu, Int.reduceLE, Int.reduceLT, Int.reduceEq, Int.reduceNeg, Int.reduceAdd, Int.reduceSub, Int.reduceMul, Nat.reduceLeDiff, Nat.reduceLT, Nat.reduceAdd, Nat.reduceEqDiff, true_and, and_true, true_or, or_true, false_or, or_false, forall_const, not_true_eq_false, not_false_eq_true, true_implies, false_implies, implies_true, and_self, zero_ne_one, one_ne_zero, eq_self, reduceIte, s_X11_flowOf_0, b_X11_flowOf_0, s_X11_flowOf_15, b_X11_flowOf_15, s_X11_flowOf_21, b_X11_flowOf_21, s_X11_flowOf_50, b_X11_flowOf_50, s_X11_flowOf_64, b_X11_flowOf_64, s_X11_flowOf_78, b_X11_flowOf_78, s_X11_flowOf_99, b_X11_flowOf_99, s_X11_flowOf_105, b_X11_flowOf_105, ld_X11_91, G_X11_flowOf_189, sp_X11_at_e, G_X11_flowOf_113, sp_X11_isCell_e, G_X11_flowOf_206, sp_X11_stepX_e, G_X11_flowOf_209, sp_X11_stepY_e]
    exact hk
  | succ e ih =>
    intro d l7 l8 h1
    have e1 : ((d + 1 : Nat) : Int) = (d : Int) + 1 := by omega
    have e2 : m_fln w h (m_at μ of) x y (d + 1) = m_fls w h (m_at μ of) x y (d : Int) (m_fln w h (m_at μ of) x y d) := rfl
    have ih1 := fun l7 l8 => ih (d + 1) l7 l8 (by omega)
    rw [e1, e2] at ih1
    unfold m_fls at ih1
    have hlow : m_vr (m_fln w h (m_at μ of) x y d).1 := by
      rcases m_fln_ok (w := w) (h := h) (A := m_at μ of) (x := x) (y := y) d with ⟨q, _⟩ | ⟨u, v, q1, _, _, q, _⟩
      · rw [q]; exact hv x y hxy
      · rw [q]; exact hv u v q1
    have b1 : -1 ≤ m_sx (d : Int) ∧ m_sx (d : Int) ≤ 1 := by
      show -1 ≤ (if (d : Int) = 0 then 1 else if (d : Int) = 2 then -1 else 0) ∧ (if (d : Int) = 0 then 1 else if (d : Int) = 2 then -1 else 0) ≤ 1
      split
      · omega
      · split <;> omega
    have b2 : -1 ≤ m_sy (d : Int) ∧ m_sy (d : Int) ≤ 1 := by
      show -1 ≤ (if (d : Int) = 1 then 1 else if (d : Int) = 3 then -1 else 0) ∧ (if (d : Int) = 1 then 1 else if (d : Int) = 3 then -1 else 0) ≤ 1
      split
      · omega
      · split <;> omega
    generalize hX : x + m_sx (d : Int) = X at ih1 b1
    generalize hY : y + m_sy (d : Int) = Y at ih1 b2
    have hX' : x + (if (d : Int) = 0 then 1 else if (d : Int) = 2 then -1 else 0) = X := hX
    have hY' : y + (if (d : Int) = 1 then 1 else if (d : Int) = 3 then -1 else 0) = Y := hY
    have bX : -1 ≤ X ∧ X ≤ 12 := by omega
    have bY : -1 ≤ Y ∧ Y ≤ 12 := by omega
    refine hR 80 b_X11_flowOf_15 15 _ _ _ o_X11_flowOf_15 ?_
    simp only [v_opt_n, v_opt_s, v_nil, v_iconst, v_bipush, v_sipush, v_lconst0, v_lconst1, v_ldc, v_ldcw, v_ldc2, v_iload0, v_iload1, v_iload2, v_iload3, v_iload, v_lload0, v_lload1, v_lload2, v_lload3, v_lload, v_aload0, v_aload1, v_aload2, v_aload3, v_aload, v_istore0, v_istore1, v_istore2, v_istore3, v_istore, v_lstore0, v_lstore1, v_lstore2, v_lstore3, v_lstore, v_astore0, v_astore1, v_astore2, v_astore3, v_astore, v_iinc, v_iadd, v_isub, v_imul, v_iand, v_ior, v_ixor, v_ishl, v_ishr, v_iushr, v_ineg, v_idiv, v_irem, v_ladd, v_lsub, v_lmul, v_lcmp, v_i2l, v_l2i, v_i2c, v_dup, v_dup2, v_if_eq, v_if_ne, v_if_lt, v_if_ge, v_if_gt, v_if_le, v_ic_eq, v_ic_ne, v_ic_lt, v_ic_ge, v_ic_gt, v_ic_le, v_goto, v_tsw, v_lsw, v_ireturn, v_areturn, v_return, v_iaload, v_laload, v_baload, v_caload, v_aaload, v_iastore, v_lastore, v_bastore, v_castore, v_alen, v_invvi, v_invst, v_invsp, e_int, e_lng, e_ref, e_lg0, e_lg1, e_lg2, e_lg3, e_lg4, e_lg5, e_lg6, e_lg7, e_lg8, e_lg9, e_lg10, e_lg11, e_lg12, e_lg13, e_clrI, e_clrJ, e_clrP, e_clrN, e_s0, e_s1, e_s2, e_s3, e_s4, e_s5, e_s6, e_s7, e_s8, e_s9, e_s10, e_s11, e_s12, e_s13, e_t0, e_t1, e_t2, e_t3, e_t4, e_t5, e_t6, e_t7, e_t8, e_t9, e_t10, e_t11, e_t12, e_t13, e_fd, e_kk, e_k0, e_k1, e_k2, e_k3, e_k4, e_k5, e_k6, e_k7, e_k8, e_k9, e_sv0, e_sv1, e_sv2, e_sv3, e_svc, e_pf0, e_pf1, e_pf2, e_pf3, e_ar, e_aa, e_al, e_sw1, e_sw2, e_ct0, e_ct1, e_ct2, e_cat0, e_cat1, e_rk0, e_rk1, e_rk2, e_inv0, e_inv1, e_inv2, e_inv3, e_inv4, e_inv5, e_inv6, e_o0, e_o1, e_cl, e_cle, e_cg, e_cge, e_ce, e_cr1, e_cr2, e_r, e_R, e_up, Int.cast_ofNat_Int, u_app, false_and, and_false, e_b0, e_b1, e_bn, e_bl, e_bu, Int.reduceLE, Int.reduceLT, Int.reduceEq, Int.reduceNeg, Int.reduceAdd, Int.reduceSub, Int.reduceMul, Nat.reduceLeDiff, Nat.reduceLT, Nat.reduceAdd, Nat.reduceEqDiff, true_and, and_true, true_or, or_true, false_or, or_false, forall_const, not_true_eq_false, not_false_eq_true, true_implies, false_implies, implies_true, and_self, zero_ne_one, one_ne_zero, eq_self, reduceIte, s_X11_flowOf_0, b_X11_flowOf_0, s_X11_flowOf_15, b_X11_flowOf_15, s_X11_flowOf_21, b_X11_flowOf_21, s_X11_flowOf_50, b_X11_flowOf_50, s_X11_flowOf_64, b_X11_flowOf_64, s_X11_flowOf_78, b_X11_flowOf_78, s_X11_flowOf_99, b_X11_flowOf_99, s_X11_flowOf_105, b_X11_flowOf_105, ld_X11_91, G_X11_flowOf_189, sp_X11_at_e, G_X11_flowOf_113, sp_X11_isCell_e, G_X11_flowOf_206, sp_X11_stepX_e, G_X11_flowOf_209, sp_X11_stepY_e, ew, eh, hX', hY']
    have hv9 := hv X Y
    refine ⟨by omega, fun c => by omega, fun c => ⟨by omega, by omega, by omega, fun c2 => ?_, fun c2 => ?_⟩⟩
    · have := ih1 (some (.inl X)) (some (.inl Y))
      rw [if_neg (fun q => c2 q.1)] at this
      exact this
    · have c3 := Classical.not_not.mp c2
      have h9 := hv9 c3
      refine ⟨by omega, by omega, fun c4 => ?_, fun c4 => ⟨by omega, by omega, fun c5 => ?_, fun c5 => ⟨by omega, ?_⟩⟩⟩
      · have := ih1 (some (.inl X)) (some (.inl Y))
        rw [if_neg (fun q => q.2.1 c4)] at this
        exact this
      · have := ih1 (some (.inl X)) (some (.inl Y))
        rw [if_neg (fun q => by have q9 : μ 96 (144 * of + 12 * Y + X) < (m_fln w h (m_at μ of) x y d).1 := q.2.2; omega)] at this
        exact this
      · have := ih1 (some (.inl X)) (some (.inl Y))
        rw [if_pos ⟨c3, c4, show μ 96 (144 * of + 12 * Y + X) < (m_fln w h (m_at μ of) x y d).1 by omega⟩] at this
        exact this
set_option maxRecDepth 100000 in
set_option maxHeartbeats 4000000 in
theorem B_X11_flowOf : q_Body cX11_flowOf 9 u_X11_flowOf fl_X11 ld_X11 G_X11_flowOf q_T 0 s_X11_flowOf sp_X11_flowOf := by
  intro S Rt hR ra μ h
  obtain ⟨this, of, x, y, rfl, h⟩ := sp_X11_flowOf_i h
  refine ⟨by simp [q_sl, q_ct], ?_⟩
  show S 0 [some (.inr (.inr this)), some (.inl of), some (.inl x), some (.inl y), none, none, none, none, none] [] μ
  obtain ⟨rfl, h1, h2, h3, h4, hk⟩ := h
  refine hR 60 [] 0 _ _ _ rfl ?_
  simp only [v_opt_n, v_opt_s, v_nil, v_iconst, v_bipush, v_sipush, v_lconst0, v_lconst1, v_ldc, v_ldcw, v_ldc2, v_iload0, v_iload1, v_iload2, v_iload3, v_iload, v_lload0, v_lload1, v_lload2, v_lload3, v_lload, v_aload0, v_aload1, v_aload2, v_aload3, v_aload, v_istore0, v_istore1, v_istore2, v_istore3, v_istore, v_lstore0, v_lstore1, v_lstore2, v_lstore3, v_lstore, v_astore0, v_astore1, v_astore2, v_astore3, v_astore, v_iinc, v_iadd, v_isub, v_imul, v_iand, v_ior, v_ixor, v_ishl, v_ishr, v_iushr, v_ineg, v_idiv, v_irem, v_ladd, v_lsub, v_lmul, v_lcmp, v_i2l, v_l2i, v_i2c, v_dup, v_dup2, v_if_eq, v_if_ne, v_if_lt, v_if_ge, v_if_gt, v_if_le, v_ic_eq, v_ic_ne, v_ic_lt, v_ic_ge, v_ic_gt, v_ic_le, v_goto, v_tsw, v_lsw, v_ireturn, v_areturn, v_return, v_iaload, v_laload, v_baload, v_caload, v_aaload, v_iastore, v_lastore, v_bastore, v_castore, v_alen, v_invvi, v_invst, v_invsp, e_int, e_lng, e_ref, e_lg0, e_lg1, e_lg2, e_lg3, e_lg4, e_lg5, e_lg6, e_lg7, e_lg8, e_lg9, e_lg10, e_lg11, e_lg12, e_lg13, e_clrI, e_clrJ, e_clrP, e_clrN, e_s0, e_s1, e_s2, e_s3, e_s4, e_s5, e_s6, e_s7, e_s8, e_s9, e_s10, e_s11, e_s12, e_s13, e_t0, e_t1, e_t2, e_t3, e_t4, e_t5, e_t6, e_t7, e_t8, e_t9, e_t10, e_t11, e_t12, e_t13, e_fd, e_kk, e_k0, e_k1, e_k2, e_k3, e_k4, e_k5, e_k6, e_k7, e_k8, e_k9, e_sv0, e_sv1, e_sv2, e_sv3, e_svc, e_pf0, e_pf1, e_pf2, e_pf3, e_ar, e_aa, e_al, e_sw1, e_sw2, e_ct0, e_ct1, e_ct2, e_cat0, e_cat1, e_rk0, e_rk1, e_rk2, e_inv0, e_inv1, e_inv2, e_inv3, e_inv4, e_inv5, e_inv6, e_o0, e_o1, e_cl, e_cle, e_cg, e_cge, e_ce, e_cr1, e_cr2, e_r, e_R, e_up, Int.cast_ofNat_Int, u_app, false_and, and_false, e_b0, e_b1, e_bn, e_bl, e_bu, Int.reduceLE, Int.reduceLT, Int.reduceEq, Int.reduceNeg, Int.reduceAdd, Int.reduceSub, Int.reduceMul, Nat.reduceLeDiff, Nat.reduceLT, Nat.reduceAdd, Nat.reduceEqDiff, true_and, and_true, true_or, or_true, false_or, or_false, forall_const, not_true_eq_false, not_false_eq_true, true_implies, false_implies, implies_true, and_self, zero_ne_one, one_ne_zero, eq_self, reduceIte, s_X11_flowOf_0, b_X11_flowOf_0, s_X11_flowOf_15, b_X11_flowOf_15, s_X11_flowOf_21, b_X11_flowOf_21, s_X11_flowOf_50, b_X11_flowOf_50, s_X11_flowOf_64, b_X11_flowOf_64, s_X11_flowOf_78, b_X11_flowOf_78, s_X11_flowOf_99, b_X11_flowOf_99, s_X11_flowOf_105, b_X11_flowOf_105, ld_X11_91, G_X11_flowOf_189, sp_X11_at_e, G_X11_flowOf_113, sp_X11_isCell_e, G_X11_flowOf_206, sp_X11_stepX_e, G_X11_flowOf_209, sp_X11_stepY_e]
  exact ⟨by omega, flowOf_d hR rfl rfl h2 h1 h3 h4 hk 4 0 none none (by omega)⟩
set_option maxRecDepth 100000 in
theorem C_X11_flowOf {l : Launch} {ad : Int → Nat} {D : va_G} {cy : Nat → ClassId} {Z : State → Prop} (hZ : q_Zg ad Z) : q_Ct l q_T q_N ad D cy Z yX11_flowOf cX11_flowOf 9 (some .int) rm_X11_flowOf sp_X11_flowOf := by
  obtain ⟨hf, hg, hld⟩ := q_chkS k_X11_flowOf
  refine q_met (rk := 0) q_wokT (by decide) rfl hf hg hld rfl (q_skS L_X11_flowOf o_X11_flowOf) ?_ ?_ ?_ ?_ B_X11_flowOf
  · intro i hi; exact absurd hi List.not_mem_nil
  · intro i hi
    have hi : i = 189 ∨ i = 113 := by simpa [u_X11_flowOf] using hi
    rcases hi with rfl | rfl
    · exact q_crV hZ.1 (C_X11_at hZ) rv_X11_at cm_X11_at (by decide +kernel) (by decide +kernel) (by decide +kernel) (by decide +kernel) (by decide +kernel) ⟨rfl, rfl⟩ (by decide)
    · exact q_crV hZ.1 (C_X11_isCell hZ) rv_X11_isCell cm_X11_isCell (by decide +kernel) (by decide +kernel) (by decide +kernel) (by decide +kernel) (by decide +kernel) ⟨rfl, rfl⟩ (by decide)
  · intro i hi
    have hi : i = 206 ∨ i = 209 := by simpa [u_X11_flowOf] using hi
    rcases hi with rfl | rfl
    · exact q_crS hZ.1 (C_X11_stepX hZ) cm_X11_stepX (by decide +kernel) (by decide +kernel) (by decide +kernel) (by decide +kernel) ⟨rfl, rfl⟩ (by decide)
    · exact q_crS hZ.1 (C_X11_stepY hZ) cm_X11_stepY (by decide +kernel) (by decide +kernel) (by decide +kernel) (by decide +kernel) ⟨rfl, rfl⟩ (by decide)
  · intro i hi; exact absurd hi List.not_mem_nil
theorem rv_X11_flowOf : q_rcv q_T yX11_flowOf.cls sp_X11_flowOf := by
  intro ra μ K h
  obtain ⟨this, of, x, y, rfl, h⟩ := sp_X11_flowOf_i h
  obtain rfl := h.1
  exact ⟨[.inl y, .inl x, .inl of], 85, 11, _, _, rfl, T_85, rfl, rfl⟩
theorem cm_X11_flowOf : Cond.code yX11_flowOf cX11_flowOf 9 (some .int) ∈ q_tb := by decide +kernel
/-- 1 where it holds -/
noncomputable def m_ind (P : Prop) : Int := @ite Int P (Classical.propDecidable P) 1 0
theorem m_ind_t {P : Prop} (h : P) : m_ind P = 1 := if_pos h
theorem m_ind_f {P : Prop} (h : ¬ P) : m_ind P = 0 := if_neg h
theorem m_ind_c {P Q : Prop} (h : P ↔ Q) : m_ind P = m_ind Q := by
  by_cases c : P
  · rw [m_ind_t c, m_ind_t (h.mp c)]
  · rw [m_ind_f c, m_ind_f (fun q => c (h.mpr q))]
def m_itr (dn : Int → Int) : Nat → Int → Int
  | 0, k => k
  | n + 1, k => if k = -1 then -1 else m_itr dn n (dn k)
theorem m_itr_m1 (dn : Int → Int) : ∀ n, m_itr dn n (-1) = -1
  | 0 => rfl
  | n + 1 => if_pos rfl
def m_sm (g : Int → Int) : Nat → Int → Int
  | 0, _ => 0
  | d + 1, u => g u + m_sm g d (u + 1)
/-- the cell of a number -/
abbrev m_kv (w h : Int) (A : Int → Int → Int) (k : Int) : Prop := 0 ≤ k ∧ m_in w h (k % 12) (k / 12) ∧ ¬ A (k % 12) (k / 12) = -2000000000
abbrev m_dk (w h : Int) (A : Int → Int → Int) (k : Int) : Int := m_dn w h A (k % 12) (k / 12)
noncomputable def m_hit (w h : Int) (A : Int → Int → Int) (u v j : Int) : Int := if A u v = -2000000000 then 0 else m_ind (∃ n, m_itr (m_dk w h A) n (12 * v + u) = j)
noncomputable def m_flow (w h : Int) (A : Int → Int → Int) (x y : Int) : Int := if A x y = -2000000000 then -2000000000 else m_sm (fun v => m_sm (fun u => m_hit w h A u v (12 * y + x)) w.toNat 0) h.toNat 0
theorem m_dk_ok {w h : Int} {A : Int → Int → Int} {k : Int} (hd : m_dim w h) : m_dk w h A k = -1 ∨ (m_kv w h A (m_dk w h A k) ∧ A (m_dk w h A k % 12) (m_dk w h A k / 12) < A (k % 12) (k / 12)) := by
  rcases m_dn_ok (w := w) (h := h) (A := A) (x := k % 12) (y := k / 12) with e | ⟨u, v, e1, e2, e3, e4⟩
  · exact Or.inl e
  · have q1 : (12 * v + u) % 12 = u := by omega
    have q2 : (12 * v + u) / 12 = v := by omega
    refine Or.inr ?_
    show m_kv w h A (m_dn w h A (k % 12) (k / 12)) ∧ A (m_dn w h A (k % 12) (k / 12) % 12) (m_dn w h A (k % 12) (k / 12) / 12) < A (k % 12) (k / 12)
    rw [e4, q1, q2]
    exact ⟨⟨by omega, by rw [q1, q2]; exact e1, by rw [q1, q2]; exact e2⟩, e3⟩
/-- along a way down the values fall -/
theorem m_itr_le {w h : Int} {A : Int → Int → Int} (hd : m_dim w h) : ∀ (n : Nat) (k : Int), m_kv w h A k → m_itr (m_dk w h A) n k = -1 ∨ (m_kv w h A (m_itr (m_dk w h A) n k) ∧ A (m_itr (m_dk w h A) n k % 12) (m_itr (m_dk w h A) n k / 12) ≤ A (k % 12) (k / 12))
  | 0, k, hk => Or.inr ⟨hk, Int.le_refl _⟩
  | n + 1, k, hk => by
    have e : m_itr (m_dk w h A) (n + 1) k = m_itr (m_dk w h A) n (m_dk w h A k) := if_neg (by omega)
    rw [e]
    rcases m_dk_ok (A := A) (k := k) hd with q | ⟨q1, q2⟩
    · rw [q, m_itr_m1]
      exact Or.inl rfl
    · rcases m_itr_le hd n _ q1 with r | ⟨r1, r2⟩
      · exact Or.inl r
      · exact Or.inr ⟨r1, by omega⟩
theorem m_ind_step {w h : Int} {A : Int → Int → Int} (hd : m_dim w h) {k j : Int} (hk : m_kv w h A k) (hj : 0 ≤ j) : m_ind (∃ n, m_itr (m_dk w h A) n k = j) = (if j = k then 1 else 0) + m_ind (∃ n, m_itr (m_dk w h A) n (m_dk w h A k) = j) := by
  have est : ∀ n, m_itr (m_dk w h A) (n + 1) k = m_itr (m_dk w h A) n (m_dk w h A k) := fun n => if_neg (by omega)
  by_cases c : j = k
  · subst c
    rw [if_pos rfl, m_ind_t ⟨0, rfl⟩, m_ind_f]
    · rfl
    · rintro ⟨n, e⟩
      rcases m_dk_ok (A := A) (k := j) hd with q | ⟨q1, q2⟩
      · rw [q, m_itr_m1] at e
        omega
      · rcases m_itr_le hd n _ q1 with r | ⟨r1, r2⟩
        · omega
        · rw [e] at r2
          omega
  · rw [if_neg c, Int.zero_add]
    refine m_ind_c ⟨?_, ?_⟩
    · rintro ⟨n, e⟩
      cases n with
      | zero => exact absurd e.symm c
      | succ n => exact ⟨n, by rw [← est]; exact e⟩
    · rintro ⟨n, e⟩
      exact ⟨n + 1, by rw [est]; exact e⟩
/-- the values of board b set to f -/
def q_reg (μ : QM) (b : Int) (f : Int → Int) : QM := fun a j => if a = 96 ∧ 144 * b ≤ j ∧ j < 144 * b + 144 then f (j - 144 * b) else μ a j
theorem u_reg (μ : QM) (b : Int) (f : Int → Int) (a j : Int) : q_reg μ b f a j = if a = 96 ∧ 144 * b ≤ j ∧ j < 144 * b + 144 then f (j - 144 * b) else μ a j := id rfl
theorem q_reg_up {μ : QM} {b k v j : Int} {f : Int → Int} (hk : 0 ≤ k ∧ k < 144) (hj : j = 144 * b + k) : q_up (q_reg μ b f) 96 j v = q_reg μ b (fun i => if i = k then v else f i) := by
  subst hj
  funext a i
  simp only [u_app, u_reg]
  by_cases c : a = 96 ∧ i = 144 * b + k
  · rw [if_pos c, if_pos (by omega), if_pos (by omega)]
  · rw [if_neg c]
    by_cases c2 : a = 96 ∧ 144 * b ≤ i ∧ i < 144 * b + 144
    · rw [if_pos c2, if_pos c2, if_neg (by omega)]
    · rw [if_neg c2, if_neg c2]
theorem q_reg_of {μ : QM} {b : Int} : q_reg μ b (fun i => μ 96 (144 * b + i)) = μ := by
  funext a i
  simp only [u_reg]
  split
  · rename_i c
    rw [show 144 * b + (i - 144 * b) = i by omega, c.1]
  · rfl

