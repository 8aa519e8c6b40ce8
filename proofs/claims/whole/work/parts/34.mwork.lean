/-! the reference: workOut -/
theorem m_tr_cg {f g : Int → Int} : ∀ (d : Nat) (u : Int) (s : QT), (∀ i : Int, u ≤ i → i < u + d → f i = g i) → m_tr f d u s = m_tr g d u s
  | 0, _, _, _ => rfl
  | d + 1, u, s, h => by
    show m_tr f d (u + 1) (m_tk (f u) s) = m_tr g d (u + 1) (m_tk (g u) s)
    rw [h u (by omega) (by omega)]
    exact m_tr_cg d (u + 1) _ (fun i a b => h i (by omega) (by omega))
theorem m_trr_cg {f g : Int → Int → Int} {u0 : Int} {k : Nat} : ∀ (d : Nat) (v : Int) (s : QT), (∀ i j : Int, u0 ≤ i → i < u0 + k → v ≤ j → j < v + d → f i j = g i j) → m_trr f u0 k d v s = m_trr g u0 k d v s
  | 0, _, _, _ => rfl
  | d + 1, v, s, h => by
    show m_trr f u0 k d (v + 1) (m_tr (fun u => f u v) k u0 s) = m_trr g u0 k d (v + 1) (m_tr (fun u => g u v) k u0 s)
    rw [m_tr_cg (f := fun u => f u v) (g := fun u => g u v) k u0 s (fun i a b => h i v a b (by omega) (by omega))]
    exact m_trr_cg d (v + 1) _ (fun i j a b c e => h i j a b (by omega) (by omega))
theorem m_F_cg {w h kind how num : Int} {sh sh' A A' B B' C C' : Int → Int → Int} {x y : Int} (hd : m_dim w h) (hxy : m_in w h x y) (hs : ∀ u v : Int, m_in w h u v → sh u v = sh' u v) (hA : ¬ kind = 0 → ∀ u v : Int, m_in w h u v → A u v = A' u v) (hB : ¬ kind = 0 → ¬ kind = 9 → ¬ kind = 10 → ¬ kind = 12 → ∀ u v : Int, m_in w h u v → B u v = B' u v) (hC : kind = 8 → ∀ u v : Int, m_in w h u v → C u v = C' u v) (h12 : ¬ kind = 12) : m_F w h kind how num sh A B C x y = m_F w h kind how num sh' A' B' C' x y := by
  unfold m_F
  by_cases c0 : kind = 0
  · rw [if_pos c0, if_pos c0, hs x y hxy]
  · rw [if_neg c0, if_neg c0]
    have hA := hA c0
    by_cases c8 : kind = 8
    · rw [if_pos c8, if_pos c8, hA x y hxy, hB c0 (by omega) (by omega) h12 x y hxy, hC c8 x y hxy]
    · rw [if_neg c8, if_neg c8]
      by_cases c9 : kind = 9
      · rw [if_pos c9, if_pos c9, hA x y hxy]
      · rw [if_neg c9, if_neg c9]
        by_cases c10 : kind = 10
        · rw [if_pos c10, if_pos c10]
          unfold m_near9
          congr 1
          refine m_trr_cg _ _ _ (fun i j _ _ _ _ => ?_)
          by_cases c : m_in w h i j
          · rw [if_pos c, if_pos c, hA i j c]
          · rw [if_neg c, if_neg c]
        · rw [if_neg c10, if_neg c10]
          have hB := hB c0 c9 c10 h12
          by_cases c11 : kind = 11
          · rw [if_pos c11, if_pos c11]
            unfold m_zone
            rw [hB x y hxy]
            congr 2
            refine m_trr_cg _ _ _ (fun i j a b c d => ?_)
            rw [hB i j (by omega), hA i j (by omega)]
          · rw [if_neg c11, if_neg c11, hA x y hxy, hB x y hxy]
/-- the value of a cell of a board, out of the boards named -/
noncomputable def m_val (w h kind how num : Int) (sh A B C : Int → Int → Int) (x y : Int) : Int := if kind = 7 then m_way w h A B x y else if kind = 12 then m_flow w h A x y else m_F w h kind how num sh A B C x y
/-- what workOut leaves as it was -/
def m_wfr (μ ν : QM) (b : Int) : Prop := ∀ a j : Int, ¬ (a = 85 ∧ 17 ≤ j ∧ j ≤ 20) → ¬ a = 97 → ¬ a = 98 → ¬ (a = 96 ∧ 144 * b ≤ j ∧ j < 144 * b + 144) → ν a j = μ a j
def sp_X11_workOut : QP := fun ra μ K => match ra with
  | [.inl b, .inr (.inr this)] => this = 85 ∧ (0 ≤ b ∧ b < 10) ∧ m_dim (μ 85 2) (μ 85 3) ∧ m_rb μ b ∧ (∀ a u v : Int, 0 ≤ a → a < b → m_in (μ 85 2) (μ 85 3) u v → m_vr (μ 96 (144 * a + 12 * v + u))) ∧ (∀ s u v : Int, 0 ≤ s → s ≤ 3 → m_in (μ 85 2) (μ 85 3) u v → m_vr (μ 86 (144 * s + 12 * v + u))) ∧ (∀ ν : QM, m_wfr μ ν b → (∀ x y : Int, m_in (μ 85 2) (μ 85 3) x y → ν 96 (144 * b + 12 * y + x) = m_val (μ 85 2) (μ 85 3) (μ 89 b) (μ 90 b) (μ 91 b) (fun x y => μ 86 (144 * μ 91 b + 12 * y + x)) (m_at μ (μ 92 (3 * b))) (m_at μ (μ 92 (3 * b + 1))) (m_at μ (μ 92 (3 * b + 2))) x y) → K none ν)
  | _ => False
theorem sp_X11_workOut_e (this b : Int) (μ : QM) (K : Option QV → QM → Prop) : sp_X11_workOut [.inl b, .inr (.inr this)] μ K = (this = 85 ∧ (0 ≤ b ∧ b < 10) ∧ m_dim (μ 85 2) (μ 85 3) ∧ m_rb μ b ∧ (∀ a u v : Int, 0 ≤ a → a < b → m_in (μ 85 2) (μ 85 3) u v → m_vr (μ 96 (144 * a + 12 * v + u))) ∧ (∀ s u v : Int, 0 ≤ s → s ≤ 3 → m_in (μ 85 2) (μ 85 3) u v → m_vr (μ 86 (144 * s + 12 * v + u))) ∧ (∀ ν : QM, m_wfr μ ν b → (∀ x y : Int, m_in (μ 85 2) (μ 85 3) x y → ν 96 (144 * b + 12 * y + x) = m_val (μ 85 2) (μ 85 3) (μ 89 b) (μ 90 b) (μ 91 b) (fun x y => μ 86 (144 * μ 91 b + 12 * y + x)) (m_at μ (μ 92 (3 * b))) (m_at μ (μ 92 (3 * b + 1))) (m_at μ (μ 92 (3 * b + 2))) x y) → K none ν)) := propext Iff.rfl
theorem sp_X11_workOut_i {ra : List QV} {μ : QM} {K : Option QV → QM → Prop} (h : sp_X11_workOut ra μ K) : ∃ this b : Int, ra = [.inl b, .inr (.inr this)] ∧ (this = 85 ∧ (0 ≤ b ∧ b < 10) ∧ m_dim (μ 85 2) (μ 85 3) ∧ m_rb μ b ∧ (∀ a u v : Int, 0 ≤ a → a < b → m_in (μ 85 2) (μ 85 3) u v → m_vr (μ 96 (144 * a + 12 * v + u))) ∧ (∀ s u v : Int, 0 ≤ s → s ≤ 3 → m_in (μ 85 2) (μ 85 3) u v → m_vr (μ 86 (144 * s + 12 * v + u))) ∧ (∀ ν : QM, m_wfr μ ν b → (∀ x y : Int, m_in (μ 85 2) (μ 85 3) x y → ν 96 (144 * b + 12 * y + x) = m_val (μ 85 2) (μ 85 3) (μ 89 b) (μ 90 b) (μ 91 b) (fun x y => μ 86 (144 * μ 91 b + 12 * y + x)) (m_at μ (μ 92 (3 * b))) (m_at μ (μ 92 (3 * b + 1))) (m_at μ (μ 92 (3 * b + 2))) x y) → K none ν)) := by
  unfold sp_X11_workOut at h
  split at h
  · exact ⟨_, _, rfl, h⟩
  · exact h.elim
def rm_X11_workOut : Room := { frames := 4, cells := 0, slots := 0, locals := 100 }
def G_X11_workOut : Nat → Nat × QP := fun i => match i with
  | 176 => (2, sp_X11_workWay)
  | 180 => (2, sp_X11_workFlow)
  | 183 => (4, sp_X11_valueOf)
  | 186 => (5, sp_X11_set)
  | _ => (0, fun _ _ _ => False)
theorem G_X11_workOut_176 : G_X11_workOut 176 = (2, sp_X11_workWay) := id rfl
theorem G_X11_workOut_180 : G_X11_workOut 180 = (2, sp_X11_workFlow) := id rfl
theorem G_X11_workOut_183 : G_X11_workOut 183 = (4, sp_X11_valueOf) := id rfl
theorem G_X11_workOut_186 : G_X11_workOut 186 = (5, sp_X11_set) := id rfl
def wo_ok (μ : QM) (w h b : Int) : Prop := μ 85 2 = w ∧ μ 85 3 = h ∧ (0 ≤ b ∧ b < 10) ∧ m_dim w h ∧ m_rb μ b ∧ (∀ a u v : Int, 0 ≤ a → a < b → m_in w h u v → m_vr (μ 96 (144 * a + 12 * v + u))) ∧ (∀ s u v : Int, 0 ≤ s → s ≤ 3 → m_in w h u v → m_vr (μ 86 (144 * s + 12 * v + u))) ∧ ¬ μ 89 b = 7 ∧ ¬ μ 89 b = 12
abbrev wo_v (μ : QM) (w h b : Int) (x y : Int) : Int := m_F w h (μ 89 b) (μ 90 b) (μ 91 b) (fun x y => μ 86 (144 * μ 91 b + 12 * y + x)) (m_at μ (μ 92 (3 * b))) (m_at μ (μ 92 (3 * b + 1))) (m_at μ (μ 92 (3 * b + 2))) x y
theorem wo_rd {μ : QM} {b : Int} {f : Int → Int} {s : QT} : (∀ a j : Int, ¬ a = 85 → ¬ a = 96 → q_tal (q_reg μ b f) s a j = μ a j) ∧ (∀ j : Int, ¬ (17 ≤ j ∧ j ≤ 20) → q_tal (q_reg μ b f) s 85 j = μ 85 j) ∧ (∀ j : Int, ¬ (144 * b ≤ j ∧ j < 144 * b + 144) → q_tal (q_reg μ b f) s 96 j = μ 96 j) := by
  refine ⟨fun a j h1 h2 => ?_, fun j h1 => ?_, fun j h1 => ?_⟩
  · simp only [u_tal, u_reg]
    simp [h1, h2]
  · simp only [u_tal, u_reg, true_and, Int.reduceEq, false_and, if_false]
    rw [if_neg (by omega), if_neg (by omega), if_neg (by omega), if_neg (by omega)]
  · simp only [u_tal, u_reg, true_and, Int.reduceEq, false_and, if_false]
    rw [if_neg h1]
set_option maxRecDepth 100000 in
set_option maxHeartbeats 4000000 in
theorem wo_x {Rt : Option QV → QM → Prop} {S : Nat → QL → List QV → QM → Prop} (hR : q_Rule cX11_workOut 4 u_X11_workOut fl_X11 ld_X11 G_X11_workOut q_T 4 s_X11_workOut Rt S) {μ : QM} {w h b y : Int} (H : wo_ok μ w h b) (hy : 0 ≤ y ∧ y < h) :
    ∀ (d : Nat) (x : Int) (f : Int → Int) (s : QT), 0 ≤ x → x + d = w → (∀ (l3 : Option QV) (f' : Int → Int) (s' : QT), (∀ j : Int, (j < 12 * y + x ∨ 12 * y + w ≤ j) → f' j = f j) → (∀ u : Int, x ≤ u → u < w → f' (12 * y + u) = wo_v μ w h b u y) → S 36 [some (.inr (.inr 85)), some (.inl b), some (.inl (y + 1)), l3] [] (q_tal (q_reg μ b f') s')) →
    S 46 [some (.inr (.inr 85)), some (.inl b), some (.inl y), some (.inl x)] [] (q_tal (q_reg μ b f) s) := by
  intro d
  induction d with
  | zero =>
    intro x f s h1 h2 hk
    obtain ⟨q1, q2, q3, q4, q5, q6, q7, q8, q9⟩ := H
    have e85 := fun f s => (wo_rd (μ := μ) (b := b) (f := f) (s := s)).2.1 2 (by omega)
    refine hR 80 b_X11_workOut_46 46 _ _ _ o_X11_workOut_46 ?_
    simp only [v_opt_n, v_opt_s, v_nil, v_iconst, v_bipush, v_sipush, v_lconst0, v_lconst1, v_ldc, v_ldcw, v_ldc2, v_iload0, v_iload1, v_iload2, v_iload3, v_iload, v_lload0, v_lload1, v_lload2, v_lload3, v_lload, v_aload0, v_aload1, v_aload2, v_aload3, v_aload, v_istore0, v_istore1, v_istore2, v_istore3, v_istore, v_lstore0, v_lstore1, v_lstore2, v_lstore3, v_lstore, v_astore0, v_astore1, v_astore2, v_astore3, v_astore, v_iinc, v_iadd, v_isub, v_imul, v_iand, v_ior, v_ixor, v_ishl, v_ishr, v_iushr, v_ineg, v_idiv, v_irem, v_ladd, v_lsub, v_lmul, v_lcmp, v_i2l, v_l2i, v_i2c, v_dup, v_dup2, v_if_eq, v_if_ne, v_if_lt, v_if_ge, v_if_gt, v_if_le, v_ic_eq, v_ic_ne, v_ic_lt, v_ic_ge, v_ic_gt, v_ic_le, v_goto, v_tsw, v_lsw, v_ireturn, v_areturn, v_return, v_iaload, v_laload, v_baload, v_caload, v_aaload, v_iastore, v_lastore, v_bastore, v_castore, v_alen, v_invvi, v_invst, v_invsp, e_int, e_lng, e_ref, e_lg0, e_lg1, e_lg2, e_lg3, e_lg4, e_lg5, e_lg6, e_lg7, e_lg8, e_lg9, e_lg10, e_lg11, e_lg12, e_lg13, e_clrI, e_clrJ, e_clrP, e_clrN, e_s0, e_s1, e_s2, e_s3, e_s4, e_s5, e_s6, e_s7, e_s8, e_s9, e_s10, e_s11, e_s12, e_s13, e_t0, e_t1, e_t2, e_t3, e_t4, e_t5, e_t6, e_t7, e_t8, e_t9, e_t10, e_t11, e_t12, e_t13, e_fd, e_kk, e_k0, e_k1, e_k2, e_k3, e_k4, e_k5, e_k6, e_k7, e_k8, e_k9, e_sv0, e_sv1, e_sv2, e_sv3, e_svc, e_pf0, e_pf1, e_pf2, e_pf3, e_ar, e_aa, e_al, e_sw1, e_sw2, e_ct0, e_ct1, e_ct2, e_cat0, e_cat1, e_rk0, e_rk1, e_rk2, e_inv0, e_inv1, e_inv2, e_inv3, e_inv4, e_inv5, e_inv6, e_o0, e_o1, e_cl, e_cle, e_cg, e_cge, e_ce, e_cr1, e_cr2, e_r, e_R, e_up, Int.cast_ofNat_Int, u_app, false_and, and_false, e_b0, e_b1, e_bn, e_bl, e_bu, Int.reduceLE, Int.reduceLT, Int.reduceEq, Int.reduceNeg, Int.reduceAdd, Int.reduceSub, Int.reduceMul, Nat.reduceLeDiff, Nat.reduceLT, Nat.reduceAdd, Nat.reduceEqDiff, true_and, and_true, true_or, or_true, false_or, or_false, forall_const, not_true_eq_false, not_false_eq_true, true_implies, false_implies, implies_true, and_self, zero_ne_one, one_ne_zero, eq_self, reduceIte, s_X11_workOut_0, b_X11_workOut_0, s_X11_workOut_11, b_X11_workOut_11, s_X11_workOut_17, b_X11_workOut_17, s_X11_workOut_28, b_X11_workOut_28, s_X11_workOut_34, b_X11_workOut_34, s_X11_workOut_36, b_X11_workOut_36, s_X11_workOut_44, b_X11_workOut_44, s_X11_workOut_46, b_X11_workOut_46, s_X11_workOut_54, b_X11_workOut_54, s_X11_workOut_74, b_X11_workOut_74, s_X11_workOut_80, b_X11_workOut_80, g_X11_27, g_X11_13, g_X11_7, G_X11_workOut_176, sp_X11_workWay_e, G_X11_workOut_180, sp_X11_workFlow_e, G_X11_workOut_183, sp_X11_valueOf_e, G_X11_workOut_186, sp_X11_set_e, e85, q1, q2]
    exact ⟨by omega, fun _ => hk _ f s (fun _ _ => rfl) (fun u a b => by omega), fun c => by omega⟩
  | succ d ih =>
    intro x f s h1 h2 hk
    obtain ⟨q1, q2, q3, q4, q5, q6, q7, q8, q9⟩ := id H
    have hxy : m_in w h x y := ⟨h1, by omega, hy.1, hy.2⟩
    obtain ⟨r1, r2, r3, r4, r5, r6, r7⟩ := id q5
    have e2 := (wo_rd (μ := μ) (b := b) (f := f) (s := s)).2.1 2 (by omega)
    have e3 := (wo_rd (μ := μ) (b := b) (f := f) (s := s)).2.1 3 (by omega)
    have eo := (wo_rd (μ := μ) (b := b) (f := f) (s := s)).1
    have e96 := (wo_rd (μ := μ) (b := b) (f := f) (s := s)).2.2
    have eU : ∀ (f : Int → Int) (s : QT) (v : Int), q_up (q_tal (q_reg μ b f) s) 96 (144 * b + 12 * y + x) v = q_tal (q_reg μ b (fun i => if i = 12 * y + x then v else f i)) s := by
      intro f s v
      rw [← q_reg_up (μ := μ) (b := b) (k := 12 * y + x) (v := v) (f := f) (by omega) (show 144 * b + 12 * y + x = 144 * b + (12 * y + x) by omega)]
      funext a j
      simp only [u_app, u_tal]
      by_cases c : a = 96
      · subst c; simp
      · simp [c]
    have next : ∀ (v : Int) (s : QT), v = wo_v μ w h b x y → S 46 [some (.inr (.inr 85)), some (.inl b), some (.inl y), some (.inl (x + 1))] [] (q_tal (q_reg μ b (fun i => if i = 12 * y + x then v else f i)) s) := by
      intro v s ev
      refine ih (x + 1) _ s (by omega) (by omega) (fun l3 f' s' a1 a2 => hk l3 f' s' (fun j hj => ?_) (fun u u1 u2 => ?_))
      · rw [a1 j (by omega)]
        exact if_neg (by omega)
      · by_cases c : u = x
        · subst c
          rw [a1 (12 * y + u) (by omega), if_pos rfl]
          exact ev
        · exact a2 u (by omega) u2
    have hA : ∀ a u v : Int, 0 ≤ a → a < b → m_in w h u v → q_tal (q_reg μ b f) s 96 (144 * a + 12 * v + u) = μ 96 (144 * a + 12 * v + u) := fun a u v a0 a1 q => e96 _ (by omega)
    have f89 := eo 89 b (by decide) (by decide)
    have f90 := eo 90 b (by decide) (by decide)
    have f91 := eo 91 b (by decide) (by decide)
    have f92 := fun j => eo 92 j (by decide) (by decide)
    have f93 := eo 93 b (by decide) (by decide)
    have f86 := fun j => eo 86 j (by decide) (by decide)
    have hrb : m_rb (q_tal (q_reg μ b f) s) b := by
      unfold m_rb
      simp only [f89, f90, f91, f92, f93]
      exact q5
    have hkn : ∀ k : Int, 0 ≤ k → k < m_mn (μ 89 b) → 0 ≤ μ 92 (3 * b + k) ∧ μ 92 (3 * b + k) < b := fun k k0 k1 => r3 k k0 (by omega)
    have eF : m_F w h (μ 89 b) (μ 90 b) (μ 91 b) (fun x y => μ 86 (144 * μ 91 b + 12 * y + x)) (m_at (q_tal (q_reg μ b f) s) (μ 92 (3 * b))) (m_at (q_tal (q_reg μ b f) s) (μ 92 (3 * b + 1))) (m_at (q_tal (q_reg μ b f) s) (μ 92 (3 * b + 2))) x y = wo_v μ w h b x y := by
      refine m_F_cg q4 hxy (fun _ _ _ => rfl) (fun c u v q => ?_) (fun c0 c9 c10 c12 u v q => ?_) (fun c u v q => ?_) q9
      · have := hkn 0 (by omega) (by unfold m_mn; (repeat' split) <;> omega)
        rw [show 3 * b + 0 = 3 * b by omega] at this
        exact hA _ u v this.1 this.2 q
      · have := hkn 1 (by omega) (by unfold m_mn; (repeat' split) <;> omega)
        exact hA _ u v this.1 this.2 q
      · have := hkn 2 (by omega) (by unfold m_mn; (repeat' split) <;> omega)
        exact hA _ u v this.1 this.2 q
    refine hR 120 b_X11_workOut_46 46 _ _ _ o_X11_workOut_46 ?_
    simp only [v_opt_n, v_opt_s, v_nil, v_iconst, v_bipush, v_sipush, v_lconst0, v_lconst1, v_ldc, v_ldcw, v_ldc2, v_iload0, v_iload1, v_iload2, v_iload3, v_iload, v_lload0, v_lload1, v_lload2, v_lload3, v_lload, v_aload0, v_aload1, v_aload2, v_aload3, v_aload, v_istore0, v_istore1, v_istore2, v_istore3, v_istore, v_lstore0, v_lstore1, v_lstore2, v_lstore3, v_lstore, v_astore0, v_astore1, v_astore2, v_astore3, v_astore, v_iinc, v_iadd, v_isub, v_imul, v_iand, v_ior, v_ixor, v_ishl, v_ishr, v_iushr, v_ineg, v_idiv, v_irem, v_ladd, v_lsub, v_lmul, v_lcmp, v_i2l, v_l2i, v_i2c, v_dup, v_dup2, v_if_eq, v_if_ne, v_if_lt, v_if_ge, v_if_gt, v_if_le, v_ic_eq, v_ic_ne, v_ic_lt, v_ic_ge, v_ic_gt, v_ic_le, v_goto, v_tsw, v_lsw, v_ireturn, v_areturn, v_return, v_iaload, v_laload, v_baload, v_caload, v_aaload, v_iastore, v_lastore, v_bastore, v_castore, v_alen, v_invvi, v_invst, v_invsp, e_int, e_lng, e_ref, e_lg0, e_lg1, e_lg2, e_lg3, e_lg4, e_lg5, e_lg6, e_lg7, e_lg8, e_lg9, e_lg10, e_lg11, e_lg12, e_lg13, e_clrI, e_clrJ, e_clrP, e_clrN, e_s0, e_s1, e_s2, e_s3, e_s4, e_s5, e_s6, e_s7, e_s8, e_s9, e_s10, e_s11, e_s12, e_s13, e_t0, e_t1, e_t2, e_t3, e_t4, e_t5, e_t6, e_t7, e_t8, e_t9, e_t10, e_t11, e_t12, e_t13, e_fd, e_kk, e_k0, e_k1, e_k2, e_k3, e_k4, e_k5, e_k6, e_k7, e_k8, e_k9, e_sv0, e_sv1, e_sv2, e_sv3, e_svc, e_pf0, e_pf1, e_pf2, e_pf3, e_ar, e_aa, e_al, e_sw1, e_sw2, e_ct0, e_ct1, e_ct2, e_cat0, e_cat1, e_rk0, e_rk1, e_rk2, e_inv0, e_inv1, e_inv2, e_inv3, e_inv4, e_inv5, e_inv6, e_o0, e_o1, e_cl, e_cle, e_cg, e_cge, e_ce, e_cr1, e_cr2, e_r, e_R, e_up, Int.cast_ofNat_Int, u_app, false_and, and_false, e_b0, e_b1, e_bn, e_bl, e_bu, Int.reduceLE, Int.reduceLT, Int.reduceEq, Int.reduceNeg, Int.reduceAdd, Int.reduceSub, Int.reduceMul, Nat.reduceLeDiff, Nat.reduceLT, Nat.reduceAdd, Nat.reduceEqDiff, true_and, and_true, true_or, or_true, false_or, or_false, forall_const, not_true_eq_false, not_false_eq_true, true_implies, false_implies, implies_true, and_self, zero_ne_one, one_ne_zero, eq_self, reduceIte, s_X11_workOut_0, b_X11_workOut_0, s_X11_workOut_11, b_X11_workOut_11, s_X11_workOut_17, b_X11_workOut_17, s_X11_workOut_28, b_X11_workOut_28, s_X11_workOut_34, b_X11_workOut_34, s_X11_workOut_36, b_X11_workOut_36, s_X11_workOut_44, b_X11_workOut_44, s_X11_workOut_46, b_X11_workOut_46, s_X11_workOut_54, b_X11_workOut_54, s_X11_workOut_74, b_X11_workOut_74, s_X11_workOut_80, b_X11_workOut_80, g_X11_27, g_X11_13, g_X11_7, G_X11_workOut_176, sp_X11_workWay_e, G_X11_workOut_180, sp_X11_workFlow_e, G_X11_workOut_183, sp_X11_valueOf_e, G_X11_workOut_186, sp_X11_set_e, e2, e3, q1, q2, f89, f90, f91, f92, f93, f86, q_tal_tal, eU, eF]
    refine ⟨by omega, fun c => by omega, fun c => ⟨q3, q4, hxy, hrb, q9, q8, fun a u v a0 a1 q => by rw [hA a u v a0 a1 q]; exact q6 a u v a0 a1 q, q7, fun s' => ⟨by omega, next _ s' rfl⟩⟩⟩
set_option maxRecDepth 100000 in
set_option maxHeartbeats 4000000 in
theorem wo_y {Rt : Option QV → QM → Prop} {S : Nat → QL → List QV → QM → Prop} (hR : q_Rule cX11_workOut 4 u_X11_workOut fl_X11 ld_X11 G_X11_workOut q_T 4 s_X11_workOut Rt S) {μ : QM} {w h b : Int} (H : wo_ok μ w h b) :
    ∀ (d : Nat) (y : Int) (f : Int → Int) (s : QT) (l3 : Option QV), 0 ≤ y → y + d = h → (∀ (f' : Int → Int) (s' : QT), (∀ j : Int, j < 12 * y → f' j = f j) → (∀ u v : Int, 0 ≤ u → u < w → y ≤ v → v < h → f' (12 * v + u) = wo_v μ w h b u v) → Rt none (q_tal (q_reg μ b f') s')) →
    S 36 [some (.inr (.inr 85)), some (.inl b), some (.inl y), l3] [] (q_tal (q_reg μ b f) s) := by
  intro d
  induction d with
  | zero =>
    intro y f s l3 h1 h2 hk
    obtain ⟨q1, q2, q3, q4, q5, q6, q7, q8, q9⟩ := H
    have e85 := fun f s => (wo_rd (μ := μ) (b := b) (f := f) (s := s)).2.1 3 (by omega)
    refine hR 80 b_X11_workOut_36 36 _ _ _ o_X11_workOut_36 ?_
    simp only [v_opt_n, v_opt_s, v_nil, v_iconst, v_bipush, v_sipush, v_lconst0, v_lconst1, v_ldc, v_ldcw, v_ldc2, v_iload0, v_iload1, v_iload2, v_iload3, v_iload, v_lload0, v_lload1, v_lload2, v_lload3, v_lload, v_aload0, v_aload1, v_aload2, v_aload3, v_aload, v_istore0, v_istore1, v_istore2, v_istore3, v_istore, v_lstore0, v_lstore1, v_lstore2, v_lstore3, v_lstore, v_astore0, v_astore1, v_astore2, v_astore3, v_astore, v_iinc, v_iadd, v_isub, v_imul, v_iand, v_ior, v_ixor, v_ishl, v_ishr, v_iushr, v_ineg, v_idiv, v_irem, v_ladd, v_lsub, v_lmul, v_lcmp, v_i2l, v_l2i, v_i2c, v_dup, v_dup2, v_if_eq, v_if_ne, v_if_lt, v_if_ge, v_if_gt, v_if_le, v_ic_eq, v_ic_ne, v_ic_lt, v_ic_ge, v_ic_gt, v_ic_le, v_goto, v_tsw, v_lsw, v_ireturn, v_areturn, v_return, v_iaload, v_laload, v_baload, v_caload, v_aaload, v_iastore, v_lastore, v_bastore, v_castore, v_alen, v_invvi, v_invst, v_invsp, e_int, e_lng, e_ref, e_lg0, e_lg1, e_lg2, e_lg3, e_lg4, e_lg5, e_lg6, e_lg7, e_lg8, e_lg9, e_lg10, e_lg11, e_lg12, e_lg13, e_clrI, e_clrJ, e_clrP, e_clrN, e_s0, e_s1, e_s2, e_s3, e_s4, e_s5, e_s6, e_s7, e_s8, e_s9, e_s10, e_s11, e_s12, e_s13, e_t0, e_t1, e_t2, e_t3, e_t4, e_t5, e_t6, e_t7, e_t8, e_t9, e_t10, e_t11, e_t12, e_t13, e_fd, e_kk, e_k0, e_k1, e_k2, e_k3, e_k4, e_k5, e_k6, e_k7, e_k8, e_k9, e_sv0, e_sv1, e_sv2, e_sv3, e_svc, e_pf0, e_pf1, e_pf2, e_pf3, e_ar, e_aa, e_al, e_sw1, e_sw2, e_ct0, e_ct1, e_ct2, e_cat0, e_cat1, e_rk0, e_rk1, e_rk2, e_inv0, e_inv1, e_inv2, e_inv3, e_inv4, e_inv5, e_inv6, e_o0, e_o1, e_cl, e_cle, e_cg, e_cge, e_ce, e_cr1, e_cr2, e_r, e_R, e_up, Int.cast_ofNat_Int, u_app, false_and, and_false, e_b0, e_b1, e_bn, e_bl, e_bu, Int.reduceLE, Int.reduceLT, Int.reduceEq, Int.reduceNeg, Int.reduceAdd, Int.reduceSub, Int.reduceMul, Nat.reduceLeDiff, Nat.reduceLT, Nat.reduceAdd, Nat.reduceEqDiff, true_and, and_true, true_or, or_true, false_or, or_false, forall_const, not_true_eq_false, not_false_eq_true, true_implies, false_implies, implies_true, and_self, zero_ne_one, one_ne_zero, eq_self, reduceIte, s_X11_workOut_0, b_X11_workOut_0, s_X11_workOut_11, b_X11_workOut_11, s_X11_workOut_17, b_X11_workOut_17, s_X11_workOut_28, b_X11_workOut_28, s_X11_workOut_34, b_X11_workOut_34, s_X11_workOut_36, b_X11_workOut_36, s_X11_workOut_44, b_X11_workOut_44, s_X11_workOut_46, b_X11_workOut_46, s_X11_workOut_54, b_X11_workOut_54, s_X11_workOut_74, b_X11_workOut_74, s_X11_workOut_80, b_X11_workOut_80, g_X11_27, g_X11_13, g_X11_7, G_X11_workOut_176, sp_X11_workWay_e, G_X11_workOut_180, sp_X11_workFlow_e, G_X11_workOut_183, sp_X11_valueOf_e, G_X11_workOut_186, sp_X11_set_e, e85, q1, q2]
    exact ⟨by omega, fun _ => hk f s (fun _ _ => rfl) (fun u v _ _ a b => by omega), fun c => by omega⟩
  | succ d ih =>
    intro y f s l3 h1 h2 hk
    obtain ⟨q1, q2, q3, q4, q5, q6, q7, q8, q9⟩ := id H
    have e85 := fun f s => (wo_rd (μ := μ) (b := b) (f := f) (s := s)).2.1 3 (by omega)
    refine hR 80 b_X11_workOut_36 36 _ _ _ o_X11_workOut_36 ?_
    simp only [v_opt_n, v_opt_s, v_nil, v_iconst, v_bipush, v_sipush, v_lconst0, v_lconst1, v_ldc, v_ldcw, v_ldc2, v_iload0, v_iload1, v_iload2, v_iload3, v_iload, v_lload0, v_lload1, v_lload2, v_lload3, v_lload, v_aload0, v_aload1, v_aload2, v_aload3, v_aload, v_istore0, v_istore1, v_istore2, v_istore3, v_istore, v_lstore0, v_lstore1, v_lstore2, v_lstore3, v_lstore, v_astore0, v_astore1, v_astore2, v_astore3, v_astore, v_iinc, v_iadd, v_isub, v_imul, v_iand, v_ior, v_ixor, v_ishl, v_ishr, v_iushr, v_ineg, v_idiv, v_irem, v_ladd, v_lsub, v_lmul, v_lcmp, v_i2l, v_l2i, v_i2c, v_dup, v_dup2, v_if_eq, v_if_ne, v_if_lt, v_if_ge, v_if_gt, v_if_le, v_ic_eq, v_ic_ne, v_ic_lt, v_ic_ge, v_ic_gt, v_ic_le, v_goto, v_tsw, v_lsw, v_ireturn, v_areturn, v_return, v_iaload, v_laload, v_baload, v_caload, v_aaload, v_iastore, v_lastore, v_bastore, v_castore, v_alen, v_invvi, v_invst, v_invsp, e_int, e_lng, e_ref, e_lg0, e_lg1, e_lg2, e_lg3, e_lg4, e_lg5, e_lg6, e_lg7, e_lg8, e_lg9, e_lg10, e_lg11, e_lg12, e_lg13, e_clrI, e_clrJ, e_clrP, e_clrN, e_s0, e_s1, e_s2, e_s3, e_s4, e_s5, e_s6, e_s7, e_s8, e_s9, e_s10, e_s11, e_s12, e_s13, e_t0, e_t1, e_t2, e_t3, e_t4, e_t5, e_t6, e_t7, e_t8, e_t9, e_t10, e_t11, e_t12, e_t13, e_fd, e_kk, e_k0, e_k1, e_k2, e_k3, e_k4, e_k5, e_k6, e_k7, e_k8, e_k9, e_sv0, e_sv1, e_sv2, e_sv3, e_svc, e_pf0, e_pf1, e_pf2, e_pf3, e_ar, e_aa, e_al, e_sw1, e_sw2, e_ct0, e_ct1, e_ct2, e_cat0, e_cat1, e_rk0, e_rk1, e_rk2, e_inv0, e_inv1, e_inv2, e_inv3, e_inv4, e_inv5, e_inv6, e_o0, e_o1, e_cl, e_cle, e_cg, e_cge, e_ce, e_cr1, e_cr2, e_r, e_R, e_up, Int.cast_ofNat_Int, u_app, false_and, and_false, e_b0, e_b1, e_bn, e_bl, e_bu, Int.reduceLE, Int.reduceLT, Int.reduceEq, Int.reduceNeg, Int.reduceAdd, Int.reduceSub, Int.reduceMul, Nat.reduceLeDiff, Nat.reduceLT, Nat.reduceAdd, Nat.reduceEqDiff, true_and, and_true, true_or, or_true, false_or, or_false, forall_const, not_true_eq_false, not_false_eq_true, true_implies, false_implies, implies_true, and_self, zero_ne_one, one_ne_zero, eq_self, reduceIte, s_X11_workOut_0, b_X11_workOut_0, s_X11_workOut_11, b_X11_workOut_11, s_X11_workOut_17, b_X11_workOut_17, s_X11_workOut_28, b_X11_workOut_28, s_X11_workOut_34, b_X11_workOut_34, s_X11_workOut_36, b_X11_workOut_36, s_X11_workOut_44, b_X11_workOut_44, s_X11_workOut_46, b_X11_workOut_46, s_X11_workOut_54, b_X11_workOut_54, s_X11_workOut_74, b_X11_workOut_74, s_X11_workOut_80, b_X11_workOut_80, g_X11_27, g_X11_13, g_X11_7, G_X11_workOut_176, sp_X11_workWay_e, G_X11_workOut_180, sp_X11_workFlow_e, G_X11_workOut_183, sp_X11_valueOf_e, G_X11_workOut_186, sp_X11_set_e, e85, q1, q2]
    refine ⟨by omega, fun c => by omega, fun c => ?_⟩
    refine wo_x hR H ⟨h1, by omega⟩ w.toNat 0 f s (by omega) (by omega) (fun l3 f' s' a1 a2 => ?_)
    refine ih (y + 1) f' s' l3 (by omega) (by omega) (fun f2 s2 b1 b2 => hk f2 s2 (fun j hj => ?_) (fun u v u1 u2 v1 v2 => ?_))
    · exact (b1 j (by omega)).trans (a1 j (by omega))
    · by_cases c9 : v = y
      · subst c9
        rw [b1 (12 * v + u) (by omega)]
        exact a2 u u1 u2
      · exact b2 u v u1 u2 (by omega) v2
theorem q_tal_id (μ : QM) : q_tal μ (μ 85 17, μ 85 18, μ 85 19, μ 85 20) = μ := by
  funext a j
  simp only [u_tal]
  by_cases c17 : a = 85 ∧ j = 17
  · simp [c17]
  · by_cases c18 : a = 85 ∧ j = 18
    · simp [c18]
    · by_cases c19 : a = 85 ∧ j = 19
      · simp [c19]
      · by_cases c20 : a = 85 ∧ j = 20
        · simp [c20]
        · simp only [c17, c18, c19, c20, if_false]
theorem wo_reg {μ : QM} {b x y : Int} {f : Int → Int} (h : 0 ≤ 12 * y + x ∧ 12 * y + x < 144) : q_reg μ b f 96 (144 * b + 12 * y + x) = f (12 * y + x) := by
  simp only [u_reg, true_and]
  rw [if_pos (by omega), show 144 * b + 12 * y + x - 144 * b = 12 * y + x by omega]
set_option maxRecDepth 100000 in
set_option maxHeartbeats 4000000 in
theorem B_X11_workOut : q_Body cX11_workOut 4 u_X11_workOut fl_X11 ld_X11 G_X11_workOut q_T 4 s_X11_workOut sp_X11_workOut := by
  intro S Rt hR ra μ h
  obtain ⟨this, b, rfl, h⟩ := sp_X11_workOut_i h
  refine ⟨by simp [q_sl, q_ct], ?_⟩
  show S 0 [some (.inr (.inr this)), some (.inl b), none, none] [] μ
  obtain ⟨rfl, h1, h2, h3, h4, h5, hk⟩ := h
  obtain ⟨r1, r2, r3, r4, r5, r6, r7⟩ := id h3
  refine hR 80 [] 0 _ _ _ rfl ?_
  simp only [v_opt_n, v_opt_s, v_nil, v_iconst, v_bipush, v_sipush, v_lconst0, v_lconst1, v_ldc, v_ldcw, v_ldc2, v_iload0, v_iload1, v_iload2, v_iload3, v_iload, v_lload0, v_lload1, v_lload2, v_lload3, v_lload, v_aload0, v_aload1, v_aload2, v_aload3, v_aload, v_istore0, v_istore1, v_istore2, v_istore3, v_istore, v_lstore0, v_lstore1, v_lstore2, v_lstore3, v_lstore, v_astore0, v_astore1, v_astore2, v_astore3, v_astore, v_iinc, v_iadd, v_isub, v_imul, v_iand, v_ior, v_ixor, v_ishl, v_ishr, v_iushr, v_ineg, v_idiv, v_irem, v_ladd, v_lsub, v_lmul, v_lcmp, v_i2l, v_l2i, v_i2c, v_dup, v_dup2, v_if_eq, v_if_ne, v_if_lt, v_if_ge, v_if_gt, v_if_le, v_ic_eq, v_ic_ne, v_ic_lt, v_ic_ge, v_ic_gt, v_ic_le, v_goto, v_tsw, v_lsw, v_ireturn, v_areturn, v_return, v_iaload, v_laload, v_baload, v_caload, v_aaload, v_iastore, v_lastore, v_bastore, v_castore, v_alen, v_invvi, v_invst, v_invsp, e_int, e_lng, e_ref, e_lg0, e_lg1, e_lg2, e_lg3, e_lg4, e_lg5, e_lg6, e_lg7, e_lg8, e_lg9, e_lg10, e_lg11, e_lg12, e_lg13, e_clrI, e_clrJ, e_clrP, e_clrN, e_s0, e_s1, e_s2, e_s3, e_s4, e_s5, e_s6, e_s7, e_s8, e_s9, e_s10, e_s11, e_s12, e_s13, e_t0, e_t1, e_t2, e_t3, e_t4, e_t5, e_t6, e_t7, e_t8, e_t9, e_t10, e_t11, e_t12, e_t13, e_fd, e_kk, e_k0, e_k1, e_k2, e_k3, e_k4, e_k5, e_k6, e_k7, e_k8, e_k9, e_sv0, e_sv1, e_sv2, e_sv3, e_svc, e_pf0, e_pf1, e_pf2, e_pf3, e_ar, e_aa, e_al, e_sw1, e_sw2, e_ct0, e_ct1, e_ct2, e_cat0, e_cat1, e_rk0, e_rk1, e_rk2, e_inv0, e_inv1, e_inv2, e_inv3, e_inv4, e_inv5, e_inv6, e_o0, e_o1, e_cl, e_cle, e_cg, e_cge, e_ce, e_cr1, e_cr2, e_r, e_R, e_up, Int.cast_ofNat_Int, u_app, false_and, and_false, e_b0, e_b1, e_bn, e_bl, e_bu, Int.reduceLE, Int.reduceLT, Int.reduceEq, Int.reduceNeg, Int.reduceAdd, Int.reduceSub, Int.reduceMul, Nat.reduceLeDiff, Nat.reduceLT, Nat.reduceAdd, Nat.reduceEqDiff, true_and, and_true, true_or, or_true, false_or, or_false, forall_const, not_true_eq_false, not_false_eq_true, true_implies, false_implies, implies_true, and_self, zero_ne_one, one_ne_zero, eq_self, reduceIte, s_X11_workOut_0, b_X11_workOut_0, s_X11_workOut_11, b_X11_workOut_11, s_X11_workOut_17, b_X11_workOut_17, s_X11_workOut_28, b_X11_workOut_28, s_X11_workOut_34, b_X11_workOut_34, s_X11_workOut_36, b_X11_workOut_36, s_X11_workOut_44, b_X11_workOut_44, s_X11_workOut_46, b_X11_workOut_46, s_X11_workOut_54, b_X11_workOut_54, s_X11_workOut_74, b_X11_workOut_74, s_X11_workOut_80, b_X11_workOut_80, g_X11_27, g_X11_13, g_X11_7, G_X11_workOut_176, sp_X11_workWay_e, G_X11_workOut_180, sp_X11_workFlow_e, G_X11_workOut_183, sp_X11_valueOf_e, G_X11_workOut_186, sp_X11_set_e, T_89]
  refine ⟨by omega, by omega, by omega, fun c7 => ⟨by omega, by omega, by omega, fun c12 => ?_, fun c12 => ?_⟩, fun c7 => ?_⟩
  · have H : wo_ok μ (μ 85 2) (μ 85 3) b := ⟨rfl, rfl, h1, h2, h3, h4, h5, c7, c12⟩
    have key := wo_y hR H (μ 85 3).toNat 0 (fun i => μ 96 (144 * b + i)) (μ 85 17, μ 85 18, μ 85 19, μ 85 20) none (by omega) (by omega) (fun f s a1 a2 => hk _ (fun a j n1 n2 n3 n4 => ?_) (fun x y q => ?_))
    · rw [q_reg_of, q_tal_id] at key
      exact key
    · by_cases c85 : a = 85
      · subst c85
        exact wo_rd.2.1 j (by omega)
      · by_cases c96 : a = 96
        · subst c96
          exact wo_rd.2.2 j (by omega)
        · exact wo_rd.1 a j c85 c96
    · have e : q_tal (q_reg μ b f) s 96 (144 * b + 12 * y + x) = q_reg μ b f 96 (144 * b + 12 * y + x) := by simp only [u_tal, Int.reduceEq, false_and, if_false]
      rw [e, wo_reg (by omega), a2 x y q.1 q.2.1 q.2.2.1 q.2.2.2]
      unfold m_val
      rw [if_neg c7, if_neg c12]
  · have o0 := r3 0 (by omega) (by rw [r2, c12]; decide)
    rw [show 3 * b + 0 = 3 * b by omega] at o0
    refine ⟨h1, h2, o0, fun u v q => h4 _ u v o0.1 o0.2 q, fun g f hf => hk _ (fun a j n1 n2 n3 n4 => ?_) (fun x y q => ?_)⟩
    · simp only [u_reg, u_blk]
      rw [if_neg n4, if_neg (fun q => n3 q.1)]
    · rw [wo_reg (by omega), hf x y q]
      unfold m_val
      rw [if_neg c7, if_pos c12]
  · have o0 := r3 0 (by omega) (by rw [r2, c7]; decide)
    have o1 := r3 1 (by omega) (by rw [r2, c7]; decide)
    rw [show 3 * b + 0 = 3 * b by omega] at o0
    refine ⟨h1, h2, o0, o1, fun u v q => h4 _ u v o0.1 o0.2 q, fun u v q => h4 _ u v o1.1 o1.2 q, fun g f hf => hk _ (fun a j n1 n2 n3 n4 => ?_) (fun x y q => ?_)⟩
    · simp only [u_reg, u_blk]
      rw [if_neg n4, if_neg (fun q => n2 q.1)]
    · rw [wo_reg (by omega), hf x y q]
      unfold m_val
      rw [if_pos c7]
set_option maxRecDepth 100000 in
theorem C_X11_workOut {l : Launch} {ad : Int → Nat} {D : va_G} {cy : Nat → ClassId} {Z : State → Prop} (hZ : q_Zg ad Z) : q_Ct l q_T q_N ad D cy Z yX11_workOut cX11_workOut 4 none rm_X11_workOut sp_X11_workOut := by
  obtain ⟨hf, hg, hld⟩ := q_chkS k_X11_workOut
  refine q_met (rk := 4) q_wokT (by decide) rfl hf hg hld rfl (q_skS L_X11_workOut o_X11_workOut) ?_ ?_ ?_ ?_ B_X11_workOut
  · intro i hi; exact absurd hi List.not_mem_nil
  · intro i hi
    have hi : i = 176 ∨ i = 180 ∨ i = 183 ∨ i = 186 := by simpa [u_X11_workOut] using hi
    rcases hi with rfl | rfl | rfl | rfl
    · exact q_crV hZ.1 (C_X11_workWay hZ) rv_X11_workWay cm_X11_workWay (by decide +kernel) (by decide +kernel) (by decide +kernel) (by decide +kernel) (by decide +kernel) ⟨rfl, rfl⟩ (by decide)
    · exact q_crV hZ.1 (C_X11_workFlow hZ) rv_X11_workFlow cm_X11_workFlow (by decide +kernel) (by decide +kernel) (by decide +kernel) (by decide +kernel) (by decide +kernel) ⟨rfl, rfl⟩ (by decide)
    · exact q_crV hZ.1 (C_X11_valueOf hZ) rv_X11_valueOf cm_X11_valueOf (by decide +kernel) (by decide +kernel) (by decide +kernel) (by decide +kernel) (by decide +kernel) ⟨rfl, rfl⟩ (by decide)
    · exact q_crV hZ.1 (C_X11_set hZ) rv_X11_set cm_X11_set (by decide +kernel) (by decide +kernel) (by decide +kernel) (by decide +kernel) (by decide +kernel) ⟨rfl, rfl⟩ (by decide)
  · intro i hi; exact absurd hi List.not_mem_nil
  · intro i hi; exact absurd hi List.not_mem_nil
theorem rv_X11_workOut : q_rcv q_T yX11_workOut.cls sp_X11_workOut := by
  intro ra μ K h
  obtain ⟨this, b, rfl, h⟩ := sp_X11_workOut_i h
  obtain rfl := h.1
  exact ⟨[.inl b], 85, 11, _, _, rfl, T_85, rfl, rfl⟩
theorem cm_X11_workOut : Cond.code yX11_workOut cX11_workOut 4 none ∈ q_tb := by decide +kernel

