/-! the class: what flows down -/
theorem m_sm_mono {g g' : Int → Int} : ∀ (d : Nat) (u : Int), (∀ i : Int, g i ≤ g' i) → m_sm g d u ≤ m_sm g' d u
  | 0, _, _ => Int.le_refl _
  | d + 1, u, h => by
    have := m_sm_mono d (u + 1) h
    have := h u
    show g u + m_sm g d (u + 1) ≤ g' u + m_sm g' d (u + 1)
    omega
theorem m_sm_lt {g g' : Int → Int} {i0 : Int} (hl : g i0 < g' i0) : ∀ (d : Nat) (u : Int), (∀ i : Int, g i ≤ g' i) → u ≤ i0 → i0 < u + d → m_sm g d u < m_sm g' d u
  | 0, u, _, h1, h2 => by omega
  | d + 1, u, h, h1, h2 => by
    show g u + m_sm g d (u + 1) < g' u + m_sm g' d (u + 1)
    by_cases c : u = i0
    · have := m_sm_mono d (u + 1) h
      rw [c] at this ⊢
      omega
    · have := m_sm_lt hl d (u + 1) h (by omega) (by omega)
      have := h u
      omega
noncomputable def c_rnk (w h : Int) (A : Int → Int → Int) (v : Int) : Int := m_sm (fun j => m_ind (m_kv w h A j ∧ A (j % 12) (j / 12) < v)) 144 0
theorem m_ind_01 (P : Prop) : 0 ≤ m_ind P ∧ m_ind P ≤ 1 := by
  by_cases c : P
  · rw [m_ind_t c]
    decide
  · rw [m_ind_f c]
    decide
theorem c_rnk_b (w h : Int) (A : Int → Int → Int) (v : Int) : 0 ≤ c_rnk w h A v ∧ c_rnk w h A v ≤ 144 := m_sm_01 (fun _ => m_ind_01 _) 144 0
theorem c_rnk_lt {w h : Int} {A : Int → Int → Int} (hd : m_dim w h) {k v : Int} (hk : m_kv w h A k) (hl : A (k % 12) (k / 12) < v) : c_rnk w h A (A (k % 12) (k / 12)) < c_rnk w h A v := by
  refine m_sm_lt (i0 := k) ?_ 144 0 (fun i => ?_) hk.1 (by have := hk.2.1; omega)
  · show m_ind (m_kv w h A k ∧ A (k % 12) (k / 12) < A (k % 12) (k / 12)) < m_ind (m_kv w h A k ∧ A (k % 12) (k / 12) < v)
    rw [m_ind_f (fun q => Int.lt_irrefl _ q.2), m_ind_t ⟨hk, hl⟩]
    decide
  · show m_ind (m_kv w h A i ∧ A (i % 12) (i / 12) < A (k % 12) (k / 12)) ≤ m_ind (m_kv w h A i ∧ A (i % 12) (i / 12) < v)
    by_cases c : m_kv w h A i ∧ A (i % 12) (i / 12) < A (k % 12) (k / 12)
    · rw [m_ind_t c, m_ind_t ⟨c.1, by omega⟩]
      exact Int.le_refl _
    · rw [m_ind_f c]
      exact (m_ind_01 _).1
theorem c_pk_kv {w h : Int} {A : Int → Int → Int} {k : Int} (hd : m_dim w h) (hk : m_kv w h A k) : c_pk k = c_p (k % 12) (k / 12) ∧ (15 ≤ c_pk k ∧ c_pk k ≤ 180) := by
  have e : c_pk k = c_p (k % 12) (k / 12) := if_neg (by omega)
  refine ⟨e, ?_⟩
  rw [e]
  show 15 ≤ (k / 12 + 1) * 14 + k % 12 + 1 ∧ (k / 12 + 1) * 14 + k % 12 + 1 ≤ 180
  have := hk.2.1
  omega
theorem c_pk_inj {w h : Int} {A : Int → Int → Int} {k j : Int} (hd : m_dim w h) (hk : m_kv w h A k) (hj : m_kv w h A j) (e : c_pk k = c_pk j) : k = j := by
  have e1 := (c_pk_kv hd hk).1
  have e2 := (c_pk_kv hd hj).1
  have e3 : (k / 12 + 1) * 14 + k % 12 + 1 = (j / 12 + 1) * 14 + j % 12 + 1 := by
    rw [← show c_p (k % 12) (k / 12) = (k / 12 + 1) * 14 + k % 12 + 1 from rfl, ← show c_p (j % 12) (j / 12) = (j / 12 + 1) * 14 + j % 12 + 1 from rfl, ← e1, ← e2, e]
  have := hk.2.1
  have := hj.2.1
  omega
def sp_X1_runDown : QP := fun ra μ K => match ra with
  | [.inl spring, .inr (.inr out), .inr (.inr this)] => this = 34 ∧ c_vn out ∧ ∃ (w h : Int) (A : Int → Int → Int) (k : Int), m_dim w h ∧ m_kv w h A k ∧ spring = c_pk k ∧ (∀ j : Int, m_kv w h A j → μ 37 (c_pk j) = c_pk (m_dk w h A j)) ∧ ∀ ν : QM, (∀ a j : Int, ¬ a = out → ν a j = μ a j) → (∀ j : Int, m_kv w h A j → ν out (c_pk j) = μ out (c_pk j) + m_ind (∃ n, m_itr (m_dk w h A) n k = j)) → (∀ p : Int, (∀ j : Int, m_kv w h A j → ¬ p = c_pk j) → ν out p = μ out p) → K none ν
  | _ => False
theorem sp_X1_runDown_e (this out spring : Int) (μ : QM) (K : Option QV → QM → Prop) : sp_X1_runDown [.inl spring, .inr (.inr out), .inr (.inr this)] μ K = (this = 34 ∧ c_vn out ∧ ∃ (w h : Int) (A : Int → Int → Int) (k : Int), m_dim w h ∧ m_kv w h A k ∧ spring = c_pk k ∧ (∀ j : Int, m_kv w h A j → μ 37 (c_pk j) = c_pk (m_dk w h A j)) ∧ ∀ ν : QM, (∀ a j : Int, ¬ a = out → ν a j = μ a j) → (∀ j : Int, m_kv w h A j → ν out (c_pk j) = μ out (c_pk j) + m_ind (∃ n, m_itr (m_dk w h A) n k = j)) → (∀ p : Int, (∀ j : Int, m_kv w h A j → ¬ p = c_pk j) → ν out p = μ out p) → K none ν) := propext Iff.rfl
theorem sp_X1_runDown_i {ra : List QV} {μ : QM} {K : Option QV → QM → Prop} (h : sp_X1_runDown ra μ K) : ∃ this out spring : Int, ra = [.inl spring, .inr (.inr out), .inr (.inr this)] ∧ (this = 34 ∧ c_vn out ∧ ∃ (w h : Int) (A : Int → Int → Int) (k : Int), m_dim w h ∧ m_kv w h A k ∧ spring = c_pk k ∧ (∀ j : Int, m_kv w h A j → μ 37 (c_pk j) = c_pk (m_dk w h A j)) ∧ ∀ ν : QM, (∀ a j : Int, ¬ a = out → ν a j = μ a j) → (∀ j : Int, m_kv w h A j → ν out (c_pk j) = μ out (c_pk j) + m_ind (∃ n, m_itr (m_dk w h A) n k = j)) → (∀ p : Int, (∀ j : Int, m_kv w h A j → ¬ p = c_pk j) → ν out p = μ out p) → K none ν) := by
  unfold sp_X1_runDown at h
  split at h
  · exact ⟨_, _, _, rfl, h⟩
  · exact h.elim
def rm_X1_runDown : Room := { frames := 0, cells := 0, slots := 0, locals := 0 }
def G_X1_runDown : Nat → Nat × QP := fun i => match i with
  | _ => (0, fun _ _ _ => False)
theorem ru_5 {Rt : Option QV → QM → Prop} {S : Nat → QL → List QV → QM → Prop} (hR : q_Rule cX1_runDown 5 u_X1_runDown fl_X1 ld_X1 G_X1_runDown q_T 4 s_X1_runDown Rt S) {out sp w h : Int} {A : Int → Int → Int} (ho : c_vn out) (hd : m_dim w h) : ∀ (N : Nat) (k s : Int) (μ : QM), (k = -1 ∨ (m_kv w h A k ∧ c_rnk w h A (A (k % 12) (k / 12)) < N)) → 0 ≤ s → s + N ≤ 190 → (∀ j : Int, m_kv w h A j → μ 37 (c_pk j) = c_pk (m_dk w h A j)) → (∀ ν : QM, (∀ a j : Int, ¬ a = out → ν a j = μ a j) → (∀ j : Int, m_kv w h A j → ν out (c_pk j) = μ out (c_pk j) + m_ind (∃ n, m_itr (m_dk w h A) n k = j)) → (∀ p : Int, (∀ j : Int, m_kv w h A j → ¬ p = c_pk j) → ν out p = μ out p) → Rt none ν) → S 5 [some (.inr (.inr 34)), some (.inr (.inr out)), some (.inl sp), some (.inl (c_pk k)), some (.inl s)] [] μ := by
  intro N
  have hTo := T_vn ho
  induction N with
  | zero =>
    intro k s μ hk0 h1 h2 hm hk
    rcases hk0 with rfl | q
    · rw [c_pk_m]
      refine hR 60 b_X1_runDown_5 5 _ _ _ o_X1_runDown_5 ?_
      simp only [v_opt_n, v_opt_s, v_nil, v_iconst, v_bipush, v_sipush, v_lconst0, v_lconst1, v_ldc, v_ldcw, v_ldc2, v_iload0, v_iload1, v_iload2, v_iload3, v_iload, v_lload0, v_lload1, v_lload2, v_lload3, v_lload, v_aload0, v_aload1, v_aload2, v_aload3, v_aload, v_istore0, v_istore1, v_istore2, v_istore3, v_istore, v_lstore0, v_lstore1, v_lstore2, v_lstore3, v_lstore, v_astore0, v_astore1, v_astore2, v_astore3, v_astore, v_iinc, v_iadd, v_isub, v_imul, v_iand, v_ior, v_ixor, v_ishl, v_ishr, v_iushr, v_ineg, v_idiv, v_irem, v_ladd, v_lsub, v_lmul, v_lcmp, v_i2l, v_l2i, v_i2c, v_dup, v_dup2, v_if_eq, v_if_ne, v_if_lt, v_if_ge, v_if_gt, v_if_le, v_ic_eq, v_ic_ne, v_ic_lt, v_ic_ge, v_ic_gt, v_ic_le, v_goto, v_tsw, v_lsw, v_ireturn, v_areturn, v_return, v_iaload, v_laload, v_baload, v_caload, v_aaload, v_iastore, v_lastore, v_bastore, v_castore, v_alen, v_invvi, v_invst, v_invsp, e_int, e_lng, e_ref, e_lg0, e_lg1, e_lg2, e_lg3, e_lg4, e_lg5, e_lg6, e_lg7, e_lg8, e_lg9, e_lg10, e_lg11, e_lg12, e_lg13, e_clrI, e_clrJ, e_clrP, e_clrN, e_s0, e_s1, e_s2, e_s3, e_s4, e_s5, e_s6, e_s7, e_s8, e_s9, e_s10, e_s11, e_s12, e_s13, e_t0, e_t1, e_t2, e_t3, e_t4, e_t5, e_t6, e_t7, e_t8, e_t9, e_t10, e_t11, e_t12, e_t13, e_fd, e_kk, e_k0, e_k1, e_k2, e_k3, e_k4, e_k5, e_k6, e_k7, e_k8, e_k9, e_sv0, e_sv1, e_sv2, e_sv3, e_svc, e_pf0, e_pf1, e_pf2, e_pf3, e_ar, e_aa, e_al, e_sw1, e_sw2, e_ct0, e_ct1, e_ct2, e_cat0, e_cat1, e_rk0, e_rk1, e_rk2, e_inv0, e_inv1, e_inv2, e_inv3, e_inv4, e_inv5, e_inv6, e_o0, e_o1, e_cl, e_cle, e_cg, e_cge, e_ce, e_cr1, e_cr2, e_r, e_R, e_up, Int.cast_ofNat_Int, u_app, false_and, and_false, e_b0, e_b1, e_bn, e_bl, e_bu, Int.reduceLE, Int.reduceLT, Int.reduceEq, Int.reduceNeg, Int.reduceAdd, Int.reduceSub, Int.reduceMul, Nat.reduceLeDiff, Nat.reduceLT, Nat.reduceAdd, Nat.reduceEqDiff, true_and, and_true, true_or, or_true, false_or, or_false, forall_const, not_true_eq_false, not_false_eq_true, true_implies, false_implies, implies_true, and_self, zero_ne_one, one_ne_zero, eq_self, reduceIte, s_X1_runDown_0, b_X1_runDown_0, s_X1_runDown_5, b_X1_runDown_5, s_X1_runDown_10, b_X1_runDown_10, s_X1_runDown_18, b_X1_runDown_18, s_X1_runDown_38, b_X1_runDown_38, g_X1_22]
      refine hk μ (fun _ _ _ => rfl) (fun j hj => ?_) (fun _ _ => rfl)
      rw [m_ind_f, Int.add_zero]
      rintro ⟨n, e⟩
      rw [m_itr_m1] at e
      have := hj.1
      omega
    · have := c_rnk_b w h A (A (k % 12) (k / 12))
      omega
  | succ N ih =>
    intro k s μ hk0 h1 h2 hm hk
    rcases hk0 with rfl | ⟨q1, q2⟩
    · rw [c_pk_m]
      refine hR 60 b_X1_runDown_5 5 _ _ _ o_X1_runDown_5 ?_
      simp only [v_opt_n, v_opt_s, v_nil, v_iconst, v_bipush, v_sipush, v_lconst0, v_lconst1, v_ldc, v_ldcw, v_ldc2, v_iload0, v_iload1, v_iload2, v_iload3, v_iload, v_lload0, v_lload1, v_lload2, v_lload3, v_lload, v_aload0, v_aload1, v_aload2, v_aload3, v_aload, v_istore0, v_istore1, v_istore2, v_istore3, v_istore, v_lstore0, v_lstore1, v_lstore2, v_lstore3, v_lstore, v_astore0, v_astore1, v_astore2, v_astore3, v_astore, v_iinc, v_iadd, v_isub, v_imul, v_iand, v_ior, v_ixor, v_ishl, v_ishr, v_iushr, v_ineg, v_idiv, v_irem, v_ladd, v_lsub, v_lmul, v_lcmp, v_i2l, v_l2i, v_i2c, v_dup, v_dup2, v_if_eq, v_if_ne, v_if_lt, v_if_ge, v_if_gt, v_if_le, v_ic_eq, v_ic_ne, v_ic_lt, v_ic_ge, v_ic_gt, v_ic_le, v_goto, v_tsw, v_lsw, v_ireturn, v_areturn, v_return, v_iaload, v_laload, v_baload, v_caload, v_aaload, v_iastore, v_lastore, v_bastore, v_castore, v_alen, v_invvi, v_invst, v_invsp, e_int, e_lng, e_ref, e_lg0, e_lg1, e_lg2, e_lg3, e_lg4, e_lg5, e_lg6, e_lg7, e_lg8, e_lg9, e_lg10, e_lg11, e_lg12, e_lg13, e_clrI, e_clrJ, e_clrP, e_clrN, e_s0, e_s1, e_s2, e_s3, e_s4, e_s5, e_s6, e_s7, e_s8, e_s9, e_s10, e_s11, e_s12, e_s13, e_t0, e_t1, e_t2, e_t3, e_t4, e_t5, e_t6, e_t7, e_t8, e_t9, e_t10, e_t11, e_t12, e_t13, e_fd, e_kk, e_k0, e_k1, e_k2, e_k3, e_k4, e_k5, e_k6, e_k7, e_k8, e_k9, e_sv0, e_sv1, e_sv2, e_sv3, e_svc, e_pf0, e_pf1, e_pf2, e_pf3, e_ar, e_aa, e_al, e_sw1, e_sw2, e_ct0, e_ct1, e_ct2, e_cat0, e_cat1, e_rk0, e_rk1, e_rk2, e_inv0, e_inv1, e_inv2, e_inv3, e_inv4, e_inv5, e_inv6, e_o0, e_o1, e_cl, e_cle, e_cg, e_cge, e_ce, e_cr1, e_cr2, e_r, e_R, e_up, Int.cast_ofNat_Int, u_app, false_and, and_false, e_b0, e_b1, e_bn, e_bl, e_bu, Int.reduceLE, Int.reduceLT, Int.reduceEq, Int.reduceNeg, Int.reduceAdd, Int.reduceSub, Int.reduceMul, Nat.reduceLeDiff, Nat.reduceLT, Nat.reduceAdd, Nat.reduceEqDiff, true_and, and_true, true_or, or_true, false_or, or_false, forall_const, not_true_eq_false, not_false_eq_true, true_implies, false_implies, implies_true, and_self, zero_ne_one, one_ne_zero, eq_self, reduceIte, s_X1_runDown_0, b_X1_runDown_0, s_X1_runDown_5, b_X1_runDown_5, s_X1_runDown_10, b_X1_runDown_10, s_X1_runDown_18, b_X1_runDown_18, s_X1_runDown_38, b_X1_runDown_38, g_X1_22]
      refine hk μ (fun _ _ _ => rfl) (fun j hj => ?_) (fun _ _ => rfl)
      rw [m_ind_f, Int.add_zero]
      rintro ⟨n, e⟩
      rw [m_itr_m1] at e
      have := hj.1
      omega
    · obtain ⟨e1, e2⟩ := c_pk_kv hd q1
      have hmk := hm k q1
      have hno : ∀ v : Int, q_up μ out (c_pk k) v 37 (c_pk k) = μ 37 (c_pk k) := fun v => by rw [u_app, if_neg (by omega)]
      have e37 : (37 = out) = False := eq_false (by omega)
      refine hR 60 b_X1_runDown_5 5 _ _ _ o_X1_runDown_5 ?_
      simp only [v_opt_n, v_opt_s, v_nil, v_iconst, v_bipush, v_sipush, v_lconst0, v_lconst1, v_ldc, v_ldcw, v_ldc2, v_iload0, v_iload1, v_iload2, v_iload3, v_iload, v_lload0, v_lload1, v_lload2, v_lload3, v_lload, v_aload0, v_aload1, v_aload2, v_aload3, v_aload, v_istore0, v_istore1, v_istore2, v_istore3, v_istore, v_lstore0, v_lstore1, v_lstore2, v_lstore3, v_lstore, v_astore0, v_astore1, v_astore2, v_astore3, v_astore, v_iinc, v_iadd, v_isub, v_imul, v_iand, v_ior, v_ixor, v_ishl, v_ishr, v_iushr, v_ineg, v_idiv, v_irem, v_ladd, v_lsub, v_lmul, v_lcmp, v_i2l, v_l2i, v_i2c, v_dup, v_dup2, v_if_eq, v_if_ne, v_if_lt, v_if_ge, v_if_gt, v_if_le, v_ic_eq, v_ic_ne, v_ic_lt, v_ic_ge, v_ic_gt, v_ic_le, v_goto, v_tsw, v_lsw, v_ireturn, v_areturn, v_return, v_iaload, v_laload, v_baload, v_caload, v_aaload, v_iastore, v_lastore, v_bastore, v_castore, v_alen, v_invvi, v_invst, v_invsp, e_int, e_lng, e_ref, e_lg0, e_lg1, e_lg2, e_lg3, e_lg4, e_lg5, e_lg6, e_lg7, e_lg8, e_lg9, e_lg10, e_lg11, e_lg12, e_lg13, e_clrI, e_clrJ, e_clrP, e_clrN, e_s0, e_s1, e_s2, e_s3, e_s4, e_s5, e_s6, e_s7, e_s8, e_s9, e_s10, e_s11, e_s12, e_s13, e_t0, e_t1, e_t2, e_t3, e_t4, e_t5, e_t6, e_t7, e_t8, e_t9, e_t10, e_t11, e_t12, e_t13, e_fd, e_kk, e_k0, e_k1, e_k2, e_k3, e_k4, e_k5, e_k6, e_k7, e_k8, e_k9, e_sv0, e_sv1, e_sv2, e_sv3, e_svc, e_pf0, e_pf1, e_pf2, e_pf3, e_ar, e_aa, e_al, e_sw1, e_sw2, e_ct0, e_ct1, e_ct2, e_cat0, e_cat1, e_rk0, e_rk1, e_rk2, e_inv0, e_inv1, e_inv2, e_inv3, e_inv4, e_inv5, e_inv6, e_o0, e_o1, e_cl, e_cle, e_cg, e_cge, e_ce, e_cr1, e_cr2, e_r, e_R, e_up, Int.cast_ofNat_Int, u_app, false_and, and_false, e_b0, e_b1, e_bn, e_bl, e_bu, Int.reduceLE, Int.reduceLT, Int.reduceEq, Int.reduceNeg, Int.reduceAdd, Int.reduceSub, Int.reduceMul, Nat.reduceLeDiff, Nat.reduceLT, Nat.reduceAdd, Nat.reduceEqDiff, true_and, and_true, true_or, or_true, false_or, or_false, forall_const, not_true_eq_false, not_false_eq_true, true_implies, false_implies, implies_true, and_self, zero_ne_one, one_ne_zero, eq_self, reduceIte, s_X1_runDown_0, b_X1_runDown_0, s_X1_runDown_5, b_X1_runDown_5, s_X1_runDown_10, b_X1_runDown_10, s_X1_runDown_18, b_X1_runDown_18, s_X1_runDown_38, b_X1_runDown_38, g_X1_22, hTo, T_37, e37]
      refine ⟨by omega, fun c => by omega, fun c => ⟨by omega, fun c => by omega, fun c => ⟨by omega, by omega, by omega, by omega, by omega, by omega, by omega, ?_⟩⟩⟩
      rw [hmk]
      refine ih (m_dk w h A k) (s + 1) _ ?_ (by omega) (by omega) (fun j hj => ?_) (fun ν f g1 g2 => hk ν (fun a j na => ?_) (fun j hj => ?_) (fun p hp => ?_))
      · rcases m_dk_ok (A := A) (k := k) hd with q | ⟨q3, q4⟩
        · exact Or.inl q
        · have := c_rnk_lt hd q3 q4
          exact Or.inr ⟨q3, by omega⟩
      · rw [u_app, if_neg (by omega)]
        exact hm j hj
      · rw [f a j na, u_app, if_neg (fun q => na q.1)]
      · rw [g1 j hj, u_app, m_ind_step hd q1 hj.1]
        by_cases c4 : j = k
        · rw [if_pos ⟨rfl, by rw [c4]⟩, if_pos c4, c4]
          omega
        · rw [if_neg (fun q => c4 (c_pk_inj hd hj q1 q.2)), if_neg c4]
          omega
      · rw [g2 p hp, u_app, if_neg (fun q => hp k q1 q.2)]
set_option maxRecDepth 100000 in
set_option maxHeartbeats 4000000 in
theorem B_X1_runDown : q_Body cX1_runDown 5 u_X1_runDown fl_X1 ld_X1 G_X1_runDown q_T 4 s_X1_runDown sp_X1_runDown := by
  intro S Rt hR ra μ h
  obtain ⟨this, out, spring, rfl, h⟩ := sp_X1_runDown_i h
  refine ⟨by simp [q_sl, q_ct], ?_⟩
  show S 0 [some (.inr (.inr this)), some (.inr (.inr out)), some (.inl spring), none, none] [] μ
  obtain ⟨rfl, ho, w, h9, A, k, hd, q1, rfl, hm, hk⟩ := h
  refine hR 40 [] 0 _ _ _ rfl ?_
  simp only [v_opt_n, v_opt_s, v_nil, v_iconst, v_bipush, v_sipush, v_lconst0, v_lconst1, v_ldc, v_ldcw, v_ldc2, v_iload0, v_iload1, v_iload2, v_iload3, v_iload, v_lload0, v_lload1, v_lload2, v_lload3, v_lload, v_aload0, v_aload1, v_aload2, v_aload3, v_aload, v_istore0, v_istore1, v_istore2, v_istore3, v_istore, v_lstore0, v_lstore1, v_lstore2, v_lstore3, v_lstore, v_astore0, v_astore1, v_astore2, v_astore3, v_astore, v_iinc, v_iadd, v_isub, v_imul, v_iand, v_ior, v_ixor, v_ishl, v_ishr, v_iushr, v_ineg, v_idiv, v_irem, v_ladd, v_lsub, v_lmul, v_lcmp, v_i2l, v_l2i, v_i2c, v_dup, v_dup2, v_if_eq, v_if_ne, v_if_lt, v_if_ge, v_if_gt, v_if_le, v_ic_eq, v_ic_ne, v_ic_lt, v_ic_ge, v_ic_gt, v_ic_le, v_goto, v_tsw, v_lsw, v_ireturn, v_areturn, v_return, v_iaload, v_laload, v_baload, v_caload, v_aaload, v_iastore, v_lastore, v_bastore, v_castore, v_alen, v_invvi, v_invst, v_invsp, e_int, e_lng, e_ref, e_lg0, e_lg1, e_lg2, e_lg3, e_lg4, e_lg5, e_lg6, e_lg7, e_lg8, e_lg9, e_lg10, e_lg11, e_lg12, e_lg13, e_clrI, e_clrJ, e_clrP, e_clrN, e_s0, e_s1, e_s2, e_s3, e_s4, e_s5, e_s6, e_s7, e_s8, e_s9, e_s10, e_s11, e_s12, e_s13, e_t0, e_t1, e_t2, e_t3, e_t4, e_t5, e_t6, e_t7, e_t8, e_t9, e_t10, e_t11, e_t12, e_t13, e_fd, e_kk, e_k0, e_k1, e_k2, e_k3, e_k4, e_k5, e_k6, e_k7, e_k8, e_k9, e_sv0, e_sv1, e_sv2, e_sv3, e_svc, e_pf0, e_pf1, e_pf2, e_pf3, e_ar, e_aa, e_al, e_sw1, e_sw2, e_ct0, e_ct1, e_ct2, e_cat0, e_cat1, e_rk0, e_rk1, e_rk2, e_inv0, e_inv1, e_inv2, e_inv3, e_inv4, e_inv5, e_inv6, e_o0, e_o1, e_cl, e_cle, e_cg, e_cge, e_ce, e_cr1, e_cr2, e_r, e_R, e_up, Int.cast_ofNat_Int, u_app, false_and, and_false, e_b0, e_b1, e_bn, e_bl, e_bu, Int.reduceLE, Int.reduceLT, Int.reduceEq, Int.reduceNeg, Int.reduceAdd, Int.reduceSub, Int.reduceMul, Nat.reduceLeDiff, Nat.reduceLT, Nat.reduceAdd, Nat.reduceEqDiff, true_and, and_true, true_or, or_true, false_or, or_false, forall_const, not_true_eq_false, not_false_eq_true, true_implies, false_implies, implies_true, and_self, zero_ne_one, one_ne_zero, eq_self, reduceIte, s_X1_runDown_0, b_X1_runDown_0, s_X1_runDown_5, b_X1_runDown_5, s_X1_runDown_10, b_X1_runDown_10, s_X1_runDown_18, b_X1_runDown_18, s_X1_runDown_38, b_X1_runDown_38, g_X1_22]
  have := c_rnk_b w h9 A (A (k % 12) (k / 12))
  exact ru_5 hR ho hd 150 k 0 μ (Or.inr ⟨q1, by omega⟩) (by omega) (by omega) hm hk
set_option maxRecDepth 100000 in
theorem C_X1_runDown {l : Launch} {ad : Int → Nat} {D : va_G} {cy : Nat → ClassId} {Z : State → Prop} (hZ : q_Zg ad Z) : q_Ct l q_T q_N ad D cy Z yX1_runDown cX1_runDown 5 none rm_X1_runDown sp_X1_runDown := by
  obtain ⟨hf, hg, hld⟩ := q_chkS k_X1_runDown
  refine q_met (rk := 4) q_wokT (by decide) rfl hf hg hld rfl (q_skS L_X1_runDown o_X1_runDown) ?_ ?_ ?_ ?_ B_X1_runDown
  · intro i hi; exact absurd hi List.not_mem_nil
  · intro i hi; exact absurd hi List.not_mem_nil
  · intro i hi; exact absurd hi List.not_mem_nil
  · intro i hi; exact absurd hi List.not_mem_nil
theorem rv_X1_runDown : q_rcv q_T yX1_runDown.cls sp_X1_runDown := by
  intro ra μ K h
  obtain ⟨this, out, spring, rfl, h⟩ := sp_X1_runDown_i h
  obtain rfl := h.1
  exact ⟨[.inl spring, .inr (.inr out)], 34, 1, _, _, rfl, T_34, rfl, rfl⟩
theorem cm_X1_runDown : Cond.code yX1_runDown cX1_runDown 5 none ∈ q_tb := by decide +kernel
/-! flows -/
def sp_X1_flows : QP := fun ra μ K => match ra with
  | [.inr (.inr out), .inr (.inr a), .inr (.inr this)] => this = 34 ∧ c_vn a ∧ c_vn out ∧ ¬ a = out ∧ c_sd μ ∧ ∃ w h : Int, m_dim w h ∧ c_gp μ a w h ∧ (∀ u v : Int, m_in w h u v → m_vr (c_A μ a u v)) ∧ ∀ ν : QM, (∀ c j : Int, ¬ c = 37 → ¬ c = out → ν c j = μ c j) → (∀ x y : Int, m_in w h x y → ν out (c_p x y) = m_flow w h (c_A μ a) x y) → (∀ u v : Int, -1 ≤ u → u ≤ 12 → -1 ≤ v → v ≤ 12 → ¬ m_in w h u v → ν out (c_p u v) = -2000000000 ∨ ν out (c_p u v) = μ out (c_p u v)) → (∀ j : Int, ¬ (15 ≤ j ∧ j ≤ 180) → ν out j = μ out j) → K none ν
  | _ => False
theorem sp_X1_flows_e (this a out : Int) (μ : QM) (K : Option QV → QM → Prop) : sp_X1_flows [.inr (.inr out), .inr (.inr a), .inr (.inr this)] μ K = (this = 34 ∧ c_vn a ∧ c_vn out ∧ ¬ a = out ∧ c_sd μ ∧ ∃ w h : Int, m_dim w h ∧ c_gp μ a w h ∧ (∀ u v : Int, m_in w h u v → m_vr (c_A μ a u v)) ∧ ∀ ν : QM, (∀ c j : Int, ¬ c = 37 → ¬ c = out → ν c j = μ c j) → (∀ x y : Int, m_in w h x y → ν out (c_p x y) = m_flow w h (c_A μ a) x y) → (∀ u v : Int, -1 ≤ u → u ≤ 12 → -1 ≤ v → v ≤ 12 → ¬ m_in w h u v → ν out (c_p u v) = -2000000000 ∨ ν out (c_p u v) = μ out (c_p u v)) → (∀ j : Int, ¬ (15 ≤ j ∧ j ≤ 180) → ν out j = μ out j) → K none ν) := propext Iff.rfl
theorem sp_X1_flows_i {ra : List QV} {μ : QM} {K : Option QV → QM → Prop} (h : sp_X1_flows ra μ K) : ∃ this a out : Int, ra = [.inr (.inr out), .inr (.inr a), .inr (.inr this)] ∧ (this = 34 ∧ c_vn a ∧ c_vn out ∧ ¬ a = out ∧ c_sd μ ∧ ∃ w h : Int, m_dim w h ∧ c_gp μ a w h ∧ (∀ u v : Int, m_in w h u v → m_vr (c_A μ a u v)) ∧ ∀ ν : QM, (∀ c j : Int, ¬ c = 37 → ¬ c = out → ν c j = μ c j) → (∀ x y : Int, m_in w h x y → ν out (c_p x y) = m_flow w h (c_A μ a) x y) → (∀ u v : Int, -1 ≤ u → u ≤ 12 → -1 ≤ v → v ≤ 12 → ¬ m_in w h u v → ν out (c_p u v) = -2000000000 ∨ ν out (c_p u v) = μ out (c_p u v)) → (∀ j : Int, ¬ (15 ≤ j ∧ j ≤ 180) → ν out j = μ out j) → K none ν) := by
  unfold sp_X1_flows at h
  split at h
  · exact ⟨_, _, _, rfl, h⟩
  · exact h.elim
def rm_X1_flows : Room := { frames := 1, cells := 0, slots := 0, locals := 26 }
def G_X1_flows : Nat → Nat × QP := fun i => match i with
  | 146 => (3, sp_X1_lowestSide)
  | 150 => (3, sp_X1_runDown)
  | _ => (0, fun _ _ _ => False)
theorem G_X1_flows_146 : G_X1_flows 146 = (3, sp_X1_lowestSide) := id rfl
theorem G_X1_flows_150 : G_X1_flows 150 = (3, sp_X1_runDown) := id rfl
/-- the first sweep -/
theorem fl_3 {Rt : Option QV → QM → Prop} {S : Nat → QL → List QV → QM → Prop} (hR : q_Rule cX1_flows 4 u_X1_flows fl_X1 ld_X1 G_X1_flows q_T 4 s_X1_flows Rt S) {μ : QM} {a out w h : Int} (ha : c_vn a) (ho : c_vn out) (hne : ¬ a = out) (hs : c_sd μ) (hd : m_dim w h) (hg : c_gp μ a w h) (hv : ∀ u v : Int, m_in w h u v → m_vr (c_A μ a u v)) (hk : ∀ ν : QM, (∀ c j : Int, ¬ c = 37 → ¬ c = out → ν c j = μ c j) → (∀ j : Int, ν out j = if 15 ≤ j ∧ j ≤ 180 then (if μ a j = -2000000000 then -2000000000 else 0) else μ out j) → (∀ x y : Int, m_in w h x y → ¬ c_A μ a x y = -2000000000 → ν 37 (c_p x y) = c_pk (m_dn w h (c_A μ a) x y)) → S 60 [some (.inr (.inr 34)), some (.inr (.inr a)), some (.inr (.inr out)), some (.inl 15)] [] ν) : ∀ (d : Nat) (p : Int) (ν : QM), 15 ≤ p → p + d = 181 → (∀ c j : Int, ¬ c = 37 → ¬ c = out → ν c j = μ c j) → (∀ j : Int, ν out j = if 15 ≤ j ∧ j < p then (if μ a j = -2000000000 then -2000000000 else 0) else μ out j) → (∀ x y : Int, m_in w h x y → c_p x y < p → ¬ c_A μ a x y = -2000000000 → ν 37 (c_p x y) = c_pk (m_dn w h (c_A μ a) x y)) → S 3 [some (.inr (.inr 34)), some (.inr (.inr a)), some (.inr (.inr out)), some (.inl p)] [] ν := by
  intro d
  have hTa := T_vn ha
  have hTo := T_vn ho
  induction d with
  | zero =>
    intro p ν h1 h2 i1 i2 i3
    obtain rfl : p = 181 := by omega
    refine hR 60 b_X1_flows_3 3 _ _ _ o_X1_flows_3 ?_
    simp only [v_opt_n, v_opt_s, v_nil, v_iconst, v_bipush, v_sipush, v_lconst0, v_lconst1, v_ldc, v_ldcw, v_ldc2, v_iload0, v_iload1, v_iload2, v_iload3, v_iload, v_lload0, v_lload1, v_lload2, v_lload3, v_lload, v_aload0, v_aload1, v_aload2, v_aload3, v_aload, v_istore0, v_istore1, v_istore2, v_istore3, v_istore, v_lstore0, v_lstore1, v_lstore2, v_lstore3, v_lstore, v_astore0, v_astore1, v_astore2, v_astore3, v_astore, v_iinc, v_iadd, v_isub, v_imul, v_iand, v_ior, v_ixor, v_ishl, v_ishr, v_iushr, v_ineg, v_idiv, v_irem, v_ladd, v_lsub, v_lmul, v_lcmp, v_i2l, v_l2i, v_i2c, v_dup, v_dup2, v_if_eq, v_if_ne, v_if_lt, v_if_ge, v_if_gt, v_if_le, v_ic_eq, v_ic_ne, v_ic_lt, v_ic_ge, v_ic_gt, v_ic_le, v_goto, v_tsw, v_lsw, v_ireturn, v_areturn, v_return, v_iaload, v_laload, v_baload, v_caload, v_aaload, v_iastore, v_lastore, v_bastore, v_castore, v_alen, v_invvi, v_invst, v_invsp, e_int, e_lng, e_ref, e_lg0, e_lg1, e_lg2, e_lg3, e_lg4, e_lg5, e_lg6, e_lg7, e_lg8, e_lg9, e_lg10, e_lg11, e_lg12, e_lg13, e_clrI, e_clrJ, e_clrP, e_clrN, e_s0, e_s1, e_s2, e_s3, e_s4, e_s5, e_s6, e_s7, e_s8, e_s9, e_s10, e_s11, e_s12, e_s13, e_t0, e_t1, e_t2, e_t3, e_t4, e_t5, e_t6, e_t7, e_t8, e_t9, e_t10, e_t11, e_t12, e_t13, e_fd, e_kk, e_k0, e_k1, e_k2, e_k3, e_k4, e_k5, e_k6, e_k7, e_k8, e_k9, e_sv0, e_sv1, e_sv2, e_sv3, e_svc, e_pf0, e_pf1, e_pf2, e_pf3, e_ar, e_aa, e_al, e_sw1, e_sw2, e_ct0, e_ct1, e_ct2, e_cat0, e_cat1, e_rk0, e_rk1, e_rk2, e_inv0, e_inv1, e_inv2, e_inv3, e_inv4, e_inv5, e_inv6, e_o0, e_o1, e_cl, e_cle, e_cg, e_cge, e_ce, e_cr1, e_cr2, e_r, e_R, e_up, Int.cast_ofNat_Int, u_app, false_and, and_false, e_b0, e_b1, e_bn, e_bl, e_bu, Int.reduceLE, Int.reduceLT, Int.reduceEq, Int.reduceNeg, Int.reduceAdd, Int.reduceSub, Int.reduceMul, Nat.reduceLeDiff, Nat.reduceLT, Nat.reduceAdd, Nat.reduceEqDiff, true_and, and_true, true_or, or_true, false_or, or_false, forall_const, not_true_eq_false, not_false_eq_true, true_implies, false_implies, implies_true, and_self, zero_ne_one, one_ne_zero, eq_self, reduceIte, s_X1_flows_0, b_X1_flows_0, s_X1_flows_3, b_X1_flows_3, s_X1_flows_10, b_X1_flows_10, s_X1_flows_20, b_X1_flows_20, s_X1_flows_25, b_X1_flows_25, s_X1_flows_26, b_X1_flows_26, s_X1_flows_40, b_X1_flows_40, s_X1_flows_44, b_X1_flows_44, s_X1_flows_50, b_X1_flows_50, s_X1_flows_57, b_X1_flows_57, s_X1_flows_60, b_X1_flows_60, s_X1_flows_67, b_X1_flows_67, s_X1_flows_75, b_X1_flows_75, s_X1_flows_81, b_X1_flows_81, s_X1_flows_87, b_X1_flows_87, g_X1_22, ld_X1_100, G_X1_flows_146, sp_X1_lowestSide_e, G_X1_flows_150, sp_X1_runDown_e]
    refine hk ν i1 (fun j => ?_) (fun x y hxy hn => i3 x y hxy (by show (y + 1) * 14 + x + 1 < 181; omega) hn)
    rw [i2 j]
    by_cases c : 15 ≤ j ∧ j < 181
    · rw [if_pos c, if_pos (show 15 ≤ j ∧ j ≤ 180 by omega)]
    · rw [if_neg c, if_neg (show ¬ (15 ≤ j ∧ j ≤ 180) by omega)]
  | succ d ih =>
    intro p ν h1 h2 i1 i2 i3
    have ea : ∀ j : Int, ν a j = μ a j := fun j => i1 a j (by omega) hne
    have ene : (a = out) = False := eq_false hne
    have en1 : (37 = out) = False := eq_false (by omega)
    obtain ⟨x0, y0, b1, b2, b3, b4, ep⟩ := c_p_ex (p := p) (by omega)
    have hap : m_vr (μ a p) := by
      by_cases c : m_in w h x0 y0
      · rw [ep]
        exact hv x0 y0 c
      · rw [ep, hg x0 y0 b1 b2 b3 b4 c]
        exact Or.inl rfl
    have st : ∀ z v : Int, (μ a p = -2000000000 ∧ z = -2000000000) ∨ (¬ μ a p = -2000000000 ∧ z = 0 ∧ ∀ x y : Int, m_in w h x y → p = c_p x y → v = c_pk (m_dn w h (c_A μ a) x y)) → S 3 [some (.inr (.inr 34)), some (.inr (.inr a)), some (.inr (.inr out)), some (.inl (p + 1))] [] (q_up (q_up ν out p z) 37 p v) := fun z v hz => by
      refine ih (p + 1) _ (by omega) (by omega) (fun c j n1 n2 => ?_) (fun j => ?_) (fun x y hxy hlt hn => ?_)
      · rw [u_app, if_neg (by omega), u_app, if_neg (by omega)]
        exact i1 c j n1 n2
      · rw [u_app, if_neg (by omega), u_app]
        by_cases c : j = p
        · rw [if_pos ⟨rfl, c⟩, if_pos (show 15 ≤ j ∧ j < p + 1 by omega), c]
          rcases hz with q | q
          · rw [if_pos q.1]
            exact q.2
          · rw [if_neg q.1]
            exact q.2.1
        · rw [if_neg (fun q => c q.2), i2 j]
          by_cases c2 : 15 ≤ j ∧ j < p
          · rw [if_pos c2, if_pos (show 15 ≤ j ∧ j < p + 1 by omega)]
          · rw [if_neg c2, if_neg (show ¬ (15 ≤ j ∧ j < p + 1) by omega)]
      · rw [u_app]
        by_cases c : c_p x y = p
        · rw [if_pos ⟨rfl, c⟩]
          rcases hz with q | q
          · exact absurd (by rw [← q.1, ← c]) hn
          · exact q.2.2 x y hxy c.symm
        · rw [if_neg (fun q => c q.2), u_app, if_neg (by omega)]
          exact i3 x y hxy (by omega) hn
    refine hR 60 b_X1_flows_3 3 _ _ _ o_X1_flows_3 ?_
    simp only [v_opt_n, v_opt_s, v_nil, v_iconst, v_bipush, v_sipush, v_lconst0, v_lconst1, v_ldc, v_ldcw, v_ldc2, v_iload0, v_iload1, v_iload2, v_iload3, v_iload, v_lload0, v_lload1, v_lload2, v_lload3, v_lload, v_aload0, v_aload1, v_aload2, v_aload3, v_aload, v_istore0, v_istore1, v_istore2, v_istore3, v_istore, v_lstore0, v_lstore1, v_lstore2, v_lstore3, v_lstore, v_astore0, v_astore1, v_astore2, v_astore3, v_astore, v_iinc, v_iadd, v_isub, v_imul, v_iand, v_ior, v_ixor, v_ishl, v_ishr, v_iushr, v_ineg, v_idiv, v_irem, v_ladd, v_lsub, v_lmul, v_lcmp, v_i2l, v_l2i, v_i2c, v_dup, v_dup2, v_if_eq, v_if_ne, v_if_lt, v_if_ge, v_if_gt, v_if_le, v_ic_eq, v_ic_ne, v_ic_lt, v_ic_ge, v_ic_gt, v_ic_le, v_goto, v_tsw, v_lsw, v_ireturn, v_areturn, v_return, v_iaload, v_laload, v_baload, v_caload, v_aaload, v_iastore, v_lastore, v_bastore, v_castore, v_alen, v_invvi, v_invst, v_invsp, e_int, e_lng, e_ref, e_lg0, e_lg1, e_lg2, e_lg3, e_lg4, e_lg5, e_lg6, e_lg7, e_lg8, e_lg9, e_lg10, e_lg11, e_lg12, e_lg13, e_clrI, e_clrJ, e_clrP, e_clrN, e_s0, e_s1, e_s2, e_s3, e_s4, e_s5, e_s6, e_s7, e_s8, e_s9, e_s10, e_s11, e_s12, e_s13, e_t0, e_t1, e_t2, e_t3, e_t4, e_t5, e_t6, e_t7, e_t8, e_t9, e_t10, e_t11, e_t12, e_t13, e_fd, e_kk, e_k0, e_k1, e_k2, e_k3, e_k4, e_k5, e_k6, e_k7, e_k8, e_k9, e_sv0, e_sv1, e_sv2, e_sv3, e_svc, e_pf0, e_pf1, e_pf2, e_pf3, e_ar, e_aa, e_al, e_sw1, e_sw2, e_ct0, e_ct1, e_ct2, e_cat0, e_cat1, e_rk0, e_rk1, e_rk2, e_inv0, e_inv1, e_inv2, e_inv3, e_inv4, e_inv5, e_inv6, e_o0, e_o1, e_cl, e_cle, e_cg, e_cge, e_ce, e_cr1, e_cr2, e_r, e_R, e_up, Int.cast_ofNat_Int, u_app, false_and, and_false, e_b0, e_b1, e_bn, e_bl, e_bu, Int.reduceLE, Int.reduceLT, Int.reduceEq, Int.reduceNeg, Int.reduceAdd, Int.reduceSub, Int.reduceMul, Nat.reduceLeDiff, Nat.reduceLT, Nat.reduceAdd, Nat.reduceEqDiff, true_and, and_true, true_or, or_true, false_or, or_false, forall_const, not_true_eq_false, not_false_eq_true, true_implies, false_implies, implies_true, and_self, zero_ne_one, one_ne_zero, eq_self, reduceIte, s_X1_flows_0, b_X1_flows_0, s_X1_flows_3, b_X1_flows_3, s_X1_flows_10, b_X1_flows_10, s_X1_flows_20, b_X1_flows_20, s_X1_flows_25, b_X1_flows_25, s_X1_flows_26, b_X1_flows_26, s_X1_flows_40, b_X1_flows_40, s_X1_flows_44, b_X1_flows_44, s_X1_flows_50, b_X1_flows_50, s_X1_flows_57, b_X1_flows_57, s_X1_flows_60, b_X1_flows_60, s_X1_flows_67, b_X1_flows_67, s_X1_flows_75, b_X1_flows_75, s_X1_flows_81, b_X1_flows_81, s_X1_flows_87, b_X1_flows_87, g_X1_22, ld_X1_100, G_X1_flows_146, sp_X1_lowestSide_e, G_X1_flows_150, sp_X1_runDown_e, hTa, hTo, T_37, ea, ene, en1]
    refine ⟨by omega, fun c => by omega, fun c => ⟨by omega, by omega, by omega, by omega, by omega, fun c1 => ?_, fun c1 => ?_⟩⟩
    · have hin : m_in w h x0 y0 := Classical.byContradiction fun q => c1 (by rw [ep]; exact hg x0 y0 b1 b2 b3 b4 q)
      refine ⟨by omega, by omega, by omega, by omega, by omega, by omega, fun c2 => ⟨by omega, ha, ?_, w, h, x0, y0, hd, hin, ep, ?_, ?_, by omega, by omega, ?_⟩, fun c2 => absurd c2 c1⟩
      · refine ⟨?_, ?_, ?_, ?_⟩
        · rw [u_app, if_neg (by omega), i1 36 0 (by omega) (by omega)]
          exact hs.1
        · rw [u_app, if_neg (by omega), i1 36 1 (by omega) (by omega)]
          exact hs.2.1
        · rw [u_app, if_neg (by omega), i1 36 2 (by omega) (by omega)]
          exact hs.2.2.1
        · rw [u_app, if_neg (by omega), i1 36 3 (by omega) (by omega)]
          exact hs.2.2.2
      · intro u v u0 u1 v0 v1 hn
        rw [u_app, if_neg (fun q => hne q.1), ea]
        exact hg u v u0 u1 v0 v1 hn
      · exact hv
      · refine st 0 _ (Or.inr ⟨c1, rfl, fun x y hxy e => ?_⟩)
        have e9 : (y0 + 1) * 14 + x0 + 1 = (y + 1) * 14 + x + 1 := ep.symm.trans e
        obtain rfl : x0 = x := by omega
        obtain rfl : y0 = y := by omega
        have eA : (fun u v => q_up ν out p 0 a ((v + 1) * 14 + u + 1)) = c_A μ a := by
          funext u v
          rw [u_app, if_neg (fun q => hne q.1), ea]
        first
          | rfl
          | (show c_pk (m_dn w h (fun u v => q_up ν out p 0 a ((v + 1) * 14 + u + 1)) x0 y0) = _
             rw [eA])
    · exact ⟨by omega, by omega, by omega, by omega, by omega, by omega, fun c2 => absurd c1 c2, fun _ => ⟨by omega, by omega, st (-2000000000) (-1) (Or.inl ⟨c1, rfl⟩)⟩⟩
theorem m_sm_app (g : Int → Int) : ∀ (d e : Nat) (u : Int), m_sm g (d + e) u = m_sm g d u + m_sm g e (u + d)
  | 0, e, u => by
    rw [Nat.zero_add, show u + ((0 : Nat) : Int) = u by omega]
    show m_sm g e u = 0 + m_sm g e u
    omega
  | d + 1, e, u => by
    rw [show d + 1 + e = (d + e) + 1 by omega]
    show g u + m_sm g (d + e) (u + 1) = g u + m_sm g d (u + 1) + m_sm g e (u + ((d + 1 : Nat) : Int))
    rw [m_sm_app g d e (u + 1), show u + 1 + (d : Int) = u + ((d + 1 : Nat) : Int) by omega]
    omega
theorem c_sm_z {g : Int → Int} : ∀ (d : Nat) (u : Int), (∀ j : Int, u ≤ j → j < u + d → g j = 0) → m_sm g d u = 0
  | 0, _, _ => rfl
  | d + 1, u, h => by
    show g u + m_sm g d (u + 1) = 0
    rw [h u (by omega) (by omega), c_sm_z d (u + 1) (fun j j0 j1 => h j (by omega) (by omega))]
    rfl
theorem m_sm_shf {g : Int → Int} (c : Int) : ∀ (d : Nat) (u : Int), m_sm (fun j => g (c + j)) d u = m_sm g d (c + u)
  | 0, _ => rfl
  | d + 1, u => by
    show g (c + u) + m_sm (fun j => g (c + j)) d (u + 1) = g (c + u) + m_sm g d (c + u + 1)
    rw [m_sm_shf c d (u + 1), show c + (u + 1) = c + u + 1 by omega]
theorem m_sm_cut {g : Int → Int} {a b : Int} {d : Nat} {u : Int} (hg : ∀ j : Int, u ≤ j → j < u + d → ¬ (a ≤ j ∧ j ≤ b) → g j = 0) (h1 : u ≤ a) (h2 : a ≤ b + 1) (h3 : b + 1 ≤ u + d) : m_sm g d u = m_sm g (b + 1 - a).toNat a := by
  obtain ⟨e, he⟩ : ∃ e : Nat, d = (a - u).toNat + ((b + 1 - a).toNat + e) := ⟨d - (a - u).toNat - (b + 1 - a).toNat, by omega⟩
  rw [he, m_sm_app, c_sm_z (a - u).toNat u (fun j j0 j1 => hg j (by omega) (by omega) (by omega)), show u + ((a - u).toNat : Int) = a by omega, m_sm_app, c_sm_z e _ (fun j j0 j1 => hg j (by omega) (by omega) (by omega))]
  omega
theorem c_srows {g : Int → Int} {w : Nat} (hw : w ≤ 12) : ∀ (k : Nat) (v : Int), (∀ u j : Int, v ≤ j → j < v + k → (u = -1 ∨ (w ≤ u ∧ u ≤ 12)) → g (c_p u j) = 0) → m_sm g (14 * k) ((v + 1) * 14) = m_sm (fun j => m_sm (fun u => g (c_p u j)) w 0) k v
  | 0, v, _ => rfl
  | k + 1, v, h => by
    have e1 : m_sm g 14 ((v + 1) * 14) = m_sm (fun u => g (c_p u v)) w 0 := by
      have e2 : (fun u => g (c_p u v)) = (fun u => g (((v + 1) * 14 + 1) + u)) := by
        funext u
        show g ((v + 1) * 14 + u + 1) = g ((v + 1) * 14 + 1 + u)
        congr 1
        omega
      rw [e2, m_sm_shf]
      rw [m_sm_cut (a := (v + 1) * 14 + 1) (b := (v + 1) * 14 + w) (fun j j0 j1 hn => ?_) (by omega) (by omega) (by omega)]
      · rw [show ((v + 1) * 14 + (w : Int) + 1 - ((v + 1) * 14 + 1)).toNat = w by omega, show (v + 1) * 14 + 1 + 0 = (v + 1) * 14 + 1 by omega]
      · have := h (j - (v + 1) * 14 - 1) v (by omega) (by omega) (by omega)
        have e3 : c_p (j - (v + 1) * 14 - 1) v = j := by
          show (v + 1) * 14 + (j - (v + 1) * 14 - 1) + 1 = j
          omega
        rw [e3] at this
        exact this
    rw [show 14 * (k + 1) = 14 + 14 * k by omega, m_sm_app, e1, show (v + 1) * 14 + ((14 : Nat) : Int) = (v + 1 + 1) * 14 by omega, c_srows hw k (v + 1) (fun u j j0 j1 => h u j (by omega) (by omega))]
    rfl
theorem c_sline {g : Int → Int} {w h : Int} (hd : m_dim w h) (hg : ∀ u v : Int, -1 ≤ u → u ≤ 12 → -1 ≤ v → v ≤ 12 → ¬ m_in w h u v → g (c_p u v) = 0) : m_sm g 166 15 = m_sm (fun j => m_sm (fun u => g (c_p u j)) w.toNat 0) h.toNat 0 := by
  have e1 : m_sm g (14 * 12) ((0 + 1) * 14) = m_sm g 166 15 := by
    rw [m_sm_cut (a := 15) (b := 180) (fun j j0 j1 hn => ?_) (by omega) (by omega) (by omega)]
    · rfl
    · have : j = 14 ∨ j = 181 := by omega
      rcases this with rfl | rfl
      · exact hg (-1) 0 (by omega) (by omega) (by omega) (by omega) (by omega)
      · exact hg 12 11 (by omega) (by omega) (by omega) (by omega) (by omega)
  rw [← e1, c_srows (w := w.toNat) (by omega) 12 0 (fun u j j0 j1 hu => hg u j (by omega) (by omega) (by omega) (by omega) (by omega))]
  obtain ⟨e, he⟩ : ∃ e : Nat, 12 = h.toNat + e := ⟨12 - h.toNat, by omega⟩
  have e2 := m_sm_app (fun j => m_sm (fun u => g (c_p u j)) w.toNat 0) h.toNat e 0
  rw [← he] at e2
  rw [e2, c_sm_z e _ (fun j j0 j1 => c_sm_z _ _ (fun u u0 u1 => hg u j (by omega) (by omega) (by omega) (by omega) (by omega))), Int.add_zero]
theorem c_sm_cg {g g' : Int → Int} : ∀ (d : Nat) (u : Int), (∀ i : Int, u ≤ i → i < u + d → g i = g' i) → m_sm g d u = m_sm g' d u
  | 0, _, _ => rfl
  | d + 1, u, h => by
    show g u + m_sm g d (u + 1) = g' u + m_sm g' d (u + 1)
    rw [h u (by omega) (by omega), c_sm_cg d (u + 1) (fun i i0 i1 => h i (by omega) (by omega))]
theorem c_npk {w h : Int} {A : Int → Int → Int} (hd : m_dim w h) {u v : Int} (hu : -1 ≤ u ∧ u ≤ 12) (hn : ¬ m_in w h u v) (j : Int) (hj : m_kv w h A j) : ¬ c_p u v = c_pk j := fun e => by
  have e1 := (c_pk_kv hd hj).1
  have e2 : (v + 1) * 14 + u + 1 = (j / 12 + 1) * 14 + j % 12 + 1 := e.trans e1
  have e3 := hj.2.1
  have e4 : j % 12 = u := by omega
  have e5 : j / 12 = v := by omega
  rw [e4, e5] at e3
  exact hn e3
noncomputable def c_hit (w h : Int) (A : Int → Int → Int) (j p : Int) : Int := m_hit w h A (p % 14 - 1) (p / 14 - 1) j
theorem c_hit_p {w h : Int} {A : Int → Int → Int} {j u v : Int} (hu : -1 ≤ u ∧ u ≤ 12) : c_hit w h A j (c_p u v) = m_hit w h A u v j := by
  unfold c_hit
  have e1 : c_p u v % 14 - 1 = u := by
    show ((v + 1) * 14 + u + 1) % 14 - 1 = u
    omega
  have e2 : c_p u v / 14 - 1 = v := by
    show ((v + 1) * 14 + u + 1) / 14 - 1 = v
    omega
  rw [e1, e2]
/-- the second sweep -/
theorem fl_60 {Rt : Option QV → QM → Prop} {S : Nat → QL → List QV → QM → Prop} (hR : q_Rule cX1_flows 4 u_X1_flows fl_X1 ld_X1 G_X1_flows q_T 4 s_X1_flows Rt S) {μ : QM} {a out w h : Int} (ha : c_vn a) (ho : c_vn out) (hne : ¬ a = out) (hd : m_dim w h) (hg : c_gp μ a w h) (hv : ∀ u v : Int, m_in w h u v → m_vr (c_A μ a u v)) {ν0 : QM} (f0 : ∀ j : Int, ν0 a j = μ a j) (h37 : ∀ x y : Int, m_in w h x y → ¬ c_A μ a x y = -2000000000 → ν0 37 (c_p x y) = c_pk (m_dn w h (c_A μ a) x y)) (hk : ∀ ν : QM, (∀ c j : Int, ¬ c = out → ν c j = ν0 c j) → (∀ j : Int, m_kv w h (c_A μ a) j → ν out (c_pk j) = ν0 out (c_pk j) + m_sm (c_hit w h (c_A μ a) j) 166 15) → (∀ p : Int, (∀ j : Int, m_kv w h (c_A μ a) j → ¬ p = c_pk j) → ν out p = ν0 out p) → Rt none ν) : ∀ (d e : Nat) (ν : QM), e + d = 166 → (∀ c j : Int, ¬ c = out → ν c j = ν0 c j) → (∀ j : Int, m_kv w h (c_A μ a) j → ν out (c_pk j) = ν0 out (c_pk j) + m_sm (c_hit w h (c_A μ a) j) e 15) → (∀ p : Int, (∀ j : Int, m_kv w h (c_A μ a) j → ¬ p = c_pk j) → ν out p = ν0 out p) → S 60 [some (.inr (.inr 34)), some (.inr (.inr a)), some (.inr (.inr out)), some (.inl (15 + (e : Int)))] [] ν := by
  intro d
  have hTa := T_vn ha
  induction d with
  | zero =>
    intro e ν h1 i1 i2 i3
    obtain rfl : e = 166 := by omega
    refine hR 60 b_X1_flows_60 60 _ _ _ o_X1_flows_60 ?_
    simp only [v_opt_n, v_opt_s, v_nil, v_iconst, v_bipush, v_sipush, v_lconst0, v_lconst1, v_ldc, v_ldcw, v_ldc2, v_iload0, v_iload1, v_iload2, v_iload3, v_iload, v_lload0, v_lload1, v_lload2, v_lload3, v_lload, v_aload0, v_aload1, v_aload2, v_aload3, v_aload, v_istore0, v_istore1, v_istore2, v_istore3, v_istore, v_lstore0, v_lstore1, v_lstore2, v_lstore3, v_lstore, v_astore0, v_astore1, v_astore2, v_astore3, v_astore, v_iinc, v_iadd, v_isub, v_imul, v_iand, v_ior, v_ixor, v_ishl, v_ishr, v_iushr, v_ineg, v_idiv, v_irem, v_ladd, v_lsub, v_lmul, v_lcmp, v_i2l, v_l2i, v_i2c, v_dup, v_dup2, v_if_eq, v_if_ne, v_if_lt, v_if_ge, v_if_gt, v_if_le, v_ic_eq, v_ic_ne, v_ic_lt, v_ic_ge, v_ic_gt, v_ic_le, v_goto, v_tsw, v_lsw, v_ireturn, v_areturn, v_return, v_iaload, v_laload, v_baload, v_caload, v_aaload, v_iastore, v_lastore, v_bastore, v_castore, v_alen, v_invvi, v_invst, v_invsp, e_int, e_lng, e_ref, e_lg0, e_lg1, e_lg2, e_lg3, e_lg4, e_lg5, e_lg6, e_lg7, e_lg8, e_lg9, e_lg10, e_lg11, e_lg12, e_lg13, e_clrI, e_clrJ, e_clrP, e_clrN, e_s0, e_s1, e_s2, e_s3, e_s4, e_s5, e_s6, e_s7, e_s8, e_s9, e_s10, e_s11, e_s12, e_s13, e_t0, e_t1, e_t2, e_t3, e_t4, e_t5, e_t6, e_t7, e_t8, e_t9, e_t10, e_t11, e_t12, e_t13, e_fd, e_kk, e_k0, e_k1, e_k2, e_k3, e_k4, e_k5, e_k6, e_k7, e_k8, e_k9, e_sv0, e_sv1, e_sv2, e_sv3, e_svc, e_pf0, e_pf1, e_pf2, e_pf3, e_ar, e_aa, e_al, e_sw1, e_sw2, e_ct0, e_ct1, e_ct2, e_cat0, e_cat1, e_rk0, e_rk1, e_rk2, e_inv0, e_inv1, e_inv2, e_inv3, e_inv4, e_inv5, e_inv6, e_o0, e_o1, e_cl, e_cle, e_cg, e_cge, e_ce, e_cr1, e_cr2, e_r, e_R, e_up, Int.cast_ofNat_Int, u_app, false_and, and_false, e_b0, e_b1, e_bn, e_bl, e_bu, Int.reduceLE, Int.reduceLT, Int.reduceEq, Int.reduceNeg, Int.reduceAdd, Int.reduceSub, Int.reduceMul, Nat.reduceLeDiff, Nat.reduceLT, Nat.reduceAdd, Nat.reduceEqDiff, true_and, and_true, true_or, or_true, false_or, or_false, forall_const, not_true_eq_false, not_false_eq_true, true_implies, false_implies, implies_true, and_self, zero_ne_one, one_ne_zero, eq_self, reduceIte, s_X1_flows_0, b_X1_flows_0, s_X1_flows_3, b_X1_flows_3, s_X1_flows_10, b_X1_flows_10, s_X1_flows_20, b_X1_flows_20, s_X1_flows_25, b_X1_flows_25, s_X1_flows_26, b_X1_flows_26, s_X1_flows_40, b_X1_flows_40, s_X1_flows_44, b_X1_flows_44, s_X1_flows_50, b_X1_flows_50, s_X1_flows_57, b_X1_flows_57, s_X1_flows_60, b_X1_flows_60, s_X1_flows_67, b_X1_flows_67, s_X1_flows_75, b_X1_flows_75, s_X1_flows_81, b_X1_flows_81, s_X1_flows_87, b_X1_flows_87, g_X1_22, ld_X1_100, G_X1_flows_146, sp_X1_lowestSide_e, G_X1_flows_150, sp_X1_runDown_e]
    exact hk ν i1 i2 i3
  | succ d ih =>
    intro e ν h1 i1 i2 i3
    have ea : ν a (15 + (e : Int)) = μ a (15 + (e : Int)) := (i1 a _ hne).trans (f0 _)
    obtain ⟨x0, y0, b1, b2, b3, b4, ep⟩ := c_p_ex (p := 15 + (e : Int)) (by omega)
    have esn : ∀ j : Int, m_sm (c_hit w h (c_A μ a) j) (e + 1) 15 = m_sm (c_hit w h (c_A μ a) j) e 15 + m_hit w h (c_A μ a) x0 y0 j := fun j => by
      rw [m_sm_app, ← c_hit_p (v := y0) ⟨b1, b2⟩, ← ep]
      show _ + (c_hit w h (c_A μ a) j (15 + (e : Int)) + 0) = _
      omega
    have hap : m_vr (μ a (15 + (e : Int))) := by
      by_cases c : m_in w h x0 y0
      · rw [ep]
        exact hv x0 y0 c
      · rw [ep, hg x0 y0 b1 b2 b3 b4 c]
        exact Or.inl rfl
    refine hR 60 b_X1_flows_60 60 _ _ _ o_X1_flows_60 ?_
    simp only [v_opt_n, v_opt_s, v_nil, v_iconst, v_bipush, v_sipush, v_lconst0, v_lconst1, v_ldc, v_ldcw, v_ldc2, v_iload0, v_iload1, v_iload2, v_iload3, v_iload, v_lload0, v_lload1, v_lload2, v_lload3, v_lload, v_aload0, v_aload1, v_aload2, v_aload3, v_aload, v_istore0, v_istore1, v_istore2, v_istore3, v_istore, v_lstore0, v_lstore1, v_lstore2, v_lstore3, v_lstore, v_astore0, v_astore1, v_astore2, v_astore3, v_astore, v_iinc, v_iadd, v_isub, v_imul, v_iand, v_ior, v_ixor, v_ishl, v_ishr, v_iushr, v_ineg, v_idiv, v_irem, v_ladd, v_lsub, v_lmul, v_lcmp, v_i2l, v_l2i, v_i2c, v_dup, v_dup2, v_if_eq, v_if_ne, v_if_lt, v_if_ge, v_if_gt, v_if_le, v_ic_eq, v_ic_ne, v_ic_lt, v_ic_ge, v_ic_gt, v_ic_le, v_goto, v_tsw, v_lsw, v_ireturn, v_areturn, v_return, v_iaload, v_laload, v_baload, v_caload, v_aaload, v_iastore, v_lastore, v_bastore, v_castore, v_alen, v_invvi, v_invst, v_invsp, e_int, e_lng, e_ref, e_lg0, e_lg1, e_lg2, e_lg3, e_lg4, e_lg5, e_lg6, e_lg7, e_lg8, e_lg9, e_lg10, e_lg11, e_lg12, e_lg13, e_clrI, e_clrJ, e_clrP, e_clrN, e_s0, e_s1, e_s2, e_s3, e_s4, e_s5, e_s6, e_s7, e_s8, e_s9, e_s10, e_s11, e_s12, e_s13, e_t0, e_t1, e_t2, e_t3, e_t4, e_t5, e_t6, e_t7, e_t8, e_t9, e_t10, e_t11, e_t12, e_t13, e_fd, e_kk, e_k0, e_k1, e_k2, e_k3, e_k4, e_k5, e_k6, e_k7, e_k8, e_k9, e_sv0, e_sv1, e_sv2, e_sv3, e_svc, e_pf0, e_pf1, e_pf2, e_pf3, e_ar, e_aa, e_al, e_sw1, e_sw2, e_ct0, e_ct1, e_ct2, e_cat0, e_cat1, e_rk0, e_rk1, e_rk2, e_inv0, e_inv1, e_inv2, e_inv3, e_inv4, e_inv5, e_inv6, e_o0, e_o1, e_cl, e_cle, e_cg, e_cge, e_ce, e_cr1, e_cr2, e_r, e_R, e_up, Int.cast_ofNat_Int, u_app, false_and, and_false, e_b0, e_b1, e_bn, e_bl, e_bu, Int.reduceLE, Int.reduceLT, Int.reduceEq, Int.reduceNeg, Int.reduceAdd, Int.reduceSub, Int.reduceMul, Nat.reduceLeDiff, Nat.reduceLT, Nat.reduceAdd, Nat.reduceEqDiff, true_and, and_true, true_or, or_true, false_or, or_false, forall_const, not_true_eq_false, not_false_eq_true, true_implies, false_implies, implies_true, and_self, zero_ne_one, one_ne_zero, eq_self, reduceIte, s_X1_flows_0, b_X1_flows_0, s_X1_flows_3, b_X1_flows_3, s_X1_flows_10, b_X1_flows_10, s_X1_flows_20, b_X1_flows_20, s_X1_flows_25, b_X1_flows_25, s_X1_flows_26, b_X1_flows_26, s_X1_flows_40, b_X1_flows_40, s_X1_flows_44, b_X1_flows_44, s_X1_flows_50, b_X1_flows_50, s_X1_flows_57, b_X1_flows_57, s_X1_flows_60, b_X1_flows_60, s_X1_flows_67, b_X1_flows_67, s_X1_flows_75, b_X1_flows_75, s_X1_flows_81, b_X1_flows_81, s_X1_flows_87, b_X1_flows_87, g_X1_22, ld_X1_100, G_X1_flows_146, sp_X1_lowestSide_e, G_X1_flows_150, sp_X1_runDown_e, hTa, ea]
    refine ⟨by omega, fun c => by omega, fun c => ⟨by omega, by omega, by omega, by omega, fun c1 => ?_, fun c1 => ?_⟩⟩
    · have hz : ∀ j : Int, m_hit w h (c_A μ a) x0 y0 j = 0 := fun j => if_pos (by show μ a (c_p x0 y0) = _; rw [← ep]; exact c1)
      have := ih (e + 1) ν (by omega) i1 (fun j hj => ?_) i3
      · rw [show 15 + ((e + 1 : Nat) : Int) = 15 + (e : Int) + 1 by omega] at this
        exact this
      · rw [esn j, hz j, Int.add_zero]
        exact i2 j hj
    · have hn0 : ¬ c_A μ a x0 y0 = -2000000000 := fun q => c1 (by rw [ep]; exact q)
      have hin : m_in w h x0 y0 := Classical.byContradiction fun q => hn0 (hg x0 y0 b1 b2 b3 b4 q)
      have q1 : (12 * y0 + x0) % 12 = x0 := by omega
      have q2 : (12 * y0 + x0) / 12 = y0 := by omega
      have hkv : m_kv w h (c_A μ a) (12 * y0 + x0) := ⟨by omega, by rw [q1, q2]; exact hin, by rw [q1, q2]; exact hn0⟩
      have ek : c_pk (12 * y0 + x0) = c_p x0 y0 := c_pk_c (by omega)
      refine ⟨by omega, ho, w, h, c_A μ a, 12 * y0 + x0, hd, hkv, ep.trans ek.symm, fun j hj => ?_, fun ν1 f1 g1 g2 => ?_⟩
      · rw [i1 37 _ (by omega), (c_pk_kv hd hj).1]
        exact h37 _ _ hj.2.1 hj.2.2
      · have := ih (e + 1) ν1 (by omega) (fun c j nc => (f1 c j nc).trans (i1 c j nc)) (fun j hj => ?_) (fun p hp => (g2 p hp).trans (i3 p hp))
        · rw [show 15 + ((e + 1 : Nat) : Int) = 15 + (e : Int) + 1 by omega] at this
          exact this
        · have eh : m_hit w h (c_A μ a) x0 y0 j = m_ind (∃ n, m_itr (m_dk w h (c_A μ a)) n (12 * y0 + x0) = j) := if_neg hn0
          rw [g1 j hj, i2 j hj, esn j, eh]
          omega
set_option maxRecDepth 100000 in
set_option maxRecDepth 100000 in
set_option maxHeartbeats 4000000 in
theorem B_X1_flows : q_Body cX1_flows 4 u_X1_flows fl_X1 ld_X1 G_X1_flows q_T 4 s_X1_flows sp_X1_flows := by
  intro S Rt hR ra μ h
  obtain ⟨this, a, out, rfl, h⟩ := sp_X1_flows_i h
  refine ⟨by simp [q_sl, q_ct], ?_⟩
  show S 0 [some (.inr (.inr this)), some (.inr (.inr a)), some (.inr (.inr out)), none] [] μ
  obtain ⟨rfl, ha, ho, hne, hs, w, h9, hd, hg, hv, hk⟩ := h
  refine hR 40 [] 0 _ _ _ rfl ?_
  simp only [v_opt_n, v_opt_s, v_nil, v_iconst, v_bipush, v_sipush, v_lconst0, v_lconst1, v_ldc, v_ldcw, v_ldc2, v_iload0, v_iload1, v_iload2, v_iload3, v_iload, v_lload0, v_lload1, v_lload2, v_lload3, v_lload, v_aload0, v_aload1, v_aload2, v_aload3, v_aload, v_istore0, v_istore1, v_istore2, v_istore3, v_istore, v_lstore0, v_lstore1, v_lstore2, v_lstore3, v_lstore, v_astore0, v_astore1, v_astore2, v_astore3, v_astore, v_iinc, v_iadd, v_isub, v_imul, v_iand, v_ior, v_ixor, v_ishl, v_ishr, v_iushr, v_ineg, v_idiv, v_irem, v_ladd, v_lsub, v_lmul, v_lcmp, v_i2l, v_l2i, v_i2c, v_dup, v_dup2, v_if_eq, v_if_ne, v_if_lt, v_if_ge, v_if_gt, v_if_le, v_ic_eq, v_ic_ne, v_ic_lt, v_ic_ge, v_ic_gt, v_ic_le, v_goto, v_tsw, v_lsw, v_ireturn, v_areturn, v_return, v_iaload, v_laload, v_baload, v_caload, v_aaload, v_iastore, v_lastore, v_bastore, v_castore, v_alen, v_invvi, v_invst, v_invsp, e_int, e_lng, e_ref, e_lg0, e_lg1, e_lg2, e_lg3, e_lg4, e_lg5, e_lg6, e_lg7, e_lg8, e_lg9, e_lg10, e_lg11, e_lg12, e_lg13, e_clrI, e_clrJ, e_clrP, e_clrN, e_s0, e_s1, e_s2, e_s3, e_s4, e_s5, e_s6, e_s7, e_s8, e_s9, e_s10, e_s11, e_s12, e_s13, e_t0, e_t1, e_t2, e_t3, e_t4, e_t5, e_t6, e_t7, e_t8, e_t9, e_t10, e_t11, e_t12, e_t13, e_fd, e_kk, e_k0, e_k1, e_k2, e_k3, e_k4, e_k5, e_k6, e_k7, e_k8, e_k9, e_sv0, e_sv1, e_sv2, e_sv3, e_svc, e_pf0, e_pf1, e_pf2, e_pf3, e_ar, e_aa, e_al, e_sw1, e_sw2, e_ct0, e_ct1, e_ct2, e_cat0, e_cat1, e_rk0, e_rk1, e_rk2, e_inv0, e_inv1, e_inv2, e_inv3, e_inv4, e_inv5, e_inv6, e_o0, e_o1, e_cl, e_cle, e_cg, e_cge, e_ce, e_cr1, e_cr2, e_r, e_R, e_up, Int.cast_ofNat_Int, u_app, false_and, and_false, e_b0, e_b1, e_bn, e_bl, e_bu, Int.reduceLE, Int.reduceLT, Int.reduceEq, Int.reduceNeg, Int.reduceAdd, Int.reduceSub, Int.reduceMul, Nat.reduceLeDiff, Nat.reduceLT, Nat.reduceAdd, Nat.reduceEqDiff, true_and, and_true, true_or, or_true, false_or, or_false, forall_const, not_true_eq_false, not_false_eq_true, true_implies, false_implies, implies_true, and_self, zero_ne_one, one_ne_zero, eq_self, reduceIte, s_X1_flows_0, b_X1_flows_0, s_X1_flows_3, b_X1_flows_3, s_X1_flows_10, b_X1_flows_10, s_X1_flows_20, b_X1_flows_20, s_X1_flows_25, b_X1_flows_25, s_X1_flows_26, b_X1_flows_26, s_X1_flows_40, b_X1_flows_40, s_X1_flows_44, b_X1_flows_44, s_X1_flows_50, b_X1_flows_50, s_X1_flows_57, b_X1_flows_57, s_X1_flows_60, b_X1_flows_60, s_X1_flows_67, b_X1_flows_67, s_X1_flows_75, b_X1_flows_75, s_X1_flows_81, b_X1_flows_81, s_X1_flows_87, b_X1_flows_87, g_X1_22, ld_X1_100, G_X1_flows_146, sp_X1_lowestSide_e, G_X1_flows_150, sp_X1_runDown_e]
  refine fl_3 hR ha ho hne hs hd hg hv (fun ν0 f0 g0 k0 => ?_) 166 15 μ (by omega) (by omega) (fun _ _ _ _ => rfl) (fun j => ?_) (fun x y hxy hlt => ?_)
  · refine fl_60 (ν0 := ν0) hR ha ho hne hd hg hv (fun j => f0 a j (by omega) hne) k0 (fun ν i1 i2 i3 => hk ν (fun c j n1 n2 => (i1 c j n2).trans (f0 c j n1 n2)) (fun x y hxy => ?_) (fun u v u0 u1 v0 v1 hn => ?_) (fun j hj => ?_)) 166 0 ν0 (by omega) (fun _ _ _ => rfl) (fun j hj => ?_) (fun _ _ => rfl)
    · have hp : 15 ≤ c_p x y ∧ c_p x y ≤ 180 := by
        show 15 ≤ (y + 1) * 14 + x + 1 ∧ (y + 1) * 14 + x + 1 ≤ 180
        omega
      have q1 : (12 * y + x) % 12 = x := by omega
      have q2 : (12 * y + x) / 12 = y := by omega
      unfold m_flow
      by_cases c : c_A μ a x y = -2000000000
      · rw [if_pos c, i3 (c_p x y) (fun j hj e => ?_), g0, if_pos hp]
        · exact if_pos c
        · have e1 := (c_pk_kv hd hj).1
          have e2 : (y + 1) * 14 + x + 1 = (j / 12 + 1) * 14 + j % 12 + 1 := e.trans e1
          have e3 := hj.2.1
          have e4 : j % 12 = x := by omega
          have e5 : j / 12 = y := by omega
          have e6 := hj.2.2
          rw [e4, e5] at e6
          exact e6 c
      · have hkv : m_kv w h9 (c_A μ a) (12 * y + x) := ⟨by omega, by rw [q1, q2]; exact hxy, by rw [q1, q2]; exact c⟩
        have ek : c_pk (12 * y + x) = c_p x y := c_pk_c (by omega)
        have := i2 (12 * y + x) hkv
        rw [ek, g0, if_pos hp, if_neg c] at this
        rw [this, if_neg c, c_sline hd (fun u v u0 u1 v0 v1 hn => ?_)]
        · rw [Int.zero_add]
          congr 1
          funext v
          exact c_sm_cg _ _ (fun u u0 u1 => c_hit_p ⟨by omega, by omega⟩)
        · rw [c_hit_p ⟨u0, u1⟩]
          exact if_pos (hg u v u0 u1 v0 v1 hn)
    · rw [i3 (c_p u v) (c_npk hd ⟨u0, u1⟩ hn), g0]
      by_cases c : 15 ≤ c_p u v ∧ c_p u v ≤ 180
      · rw [if_pos c, if_pos (hg u v u0 u1 v0 v1 hn)]
        exact Or.inl rfl
      · rw [if_neg c]
        exact Or.inr rfl
    · rw [i3 j (fun k hk e => hj (by rw [e]; exact (c_pk_kv hd hk).2)), g0, if_neg hj]
    · show ν0 out (c_pk j) = ν0 out (c_pk j) + 0
      omega
  · rw [if_neg (by omega)]
  · have : 15 ≤ (y + 1) * 14 + x + 1 := by omega
    exact absurd hlt (by show ¬ (y + 1) * 14 + x + 1 < 15; omega)
set_option maxRecDepth 100000 in
theorem C_X1_flows {l : Launch} {ad : Int → Nat} {D : va_G} {cy : Nat → ClassId} {Z : State → Prop} (hZ : q_Zg ad Z) : q_Ct l q_T q_N ad D cy Z yX1_flows cX1_flows 4 none rm_X1_flows sp_X1_flows := by
  obtain ⟨hf, hg, hld⟩ := q_chkS k_X1_flows
  refine q_met (rk := 4) q_wokT (by decide) rfl hf hg hld rfl (q_skS L_X1_flows o_X1_flows) ?_ ?_ ?_ ?_ B_X1_flows
  · intro i hi; exact absurd hi List.not_mem_nil
  · intro i hi
    have hi : i = 146 ∨ i = 150 := by simpa [u_X1_flows] using hi
    rcases hi with rfl | rfl
    · exact q_crV hZ.1 (C_X1_lowestSide hZ) rv_X1_lowestSide cm_X1_lowestSide (by decide +kernel) (by decide +kernel) (by decide +kernel) (by decide +kernel) (by decide +kernel) ⟨rfl, rfl⟩ (by decide)
    · exact q_crV hZ.1 (C_X1_runDown hZ) rv_X1_runDown cm_X1_runDown (by decide +kernel) (by decide +kernel) (by decide +kernel) (by decide +kernel) (by decide +kernel) ⟨rfl, rfl⟩ (by decide)
  · intro i hi; exact absurd hi List.not_mem_nil
  · intro i hi; exact absurd hi List.not_mem_nil
theorem rv_X1_flows : q_rcv q_T yX1_flows.cls sp_X1_flows := by
  intro ra μ K h
  obtain ⟨this, a, out, rfl, h⟩ := sp_X1_flows_i h
  obtain rfl := h.1
  exact ⟨[.inr (.inr out), .inr (.inr a)], 34, 1, _, _, rfl, T_34, rfl, rfl⟩
theorem cm_X1_flows : Cond.code yX1_flows cX1_flows 4 none ∈ q_tb := by decide +kernel

