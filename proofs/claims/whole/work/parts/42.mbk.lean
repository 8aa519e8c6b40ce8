/-! the reference: back -/
def m_dfn (A B : Int → Int) : Nat → Int
  | 0 => 0
  | n + 1 => m_dfn A B n + if A n = B n then 0 else 1
theorem m_dfn_s (A B : Int → Int) (n : Nat) : m_dfn A B (n + 1) = m_dfn A B n + if A n = B n then 0 else 1 := id rfl
theorem m_dfn_b (A B : Int → Int) : ∀ n : Nat, 0 ≤ m_dfn A B n ∧ m_dfn A B n ≤ n
  | 0 => by
    show 0 ≤ (0 : Int) ∧ (0 : Int) ≤ ((0 : Nat) : Int)
    omega
  | n + 1 => by
    rw [m_dfn_s]
    have := m_dfn_b A B n
    split <;> omega
abbrev m_fM (μ : QM) (b t s : Int) : Int := m_from (μ 85 2) (μ 85 3) (μ 89) (μ 91) (μ 93) (fun b k => μ 92 (3 * b + k)) b t s
/-- the tile of a cell's index -/
abbrev m_ti (i : Int) : Int := (i / 12 % 12) / 4 * 3 + (i % 12) / 4
/-- what is fresh when the first n cells are brought back -/
def m_bfr (μ : QM) (k : Int) (n : Nat) (F : Int → Int) : Prop := ∀ j : Int, (¬ (0 ≤ j ∧ j < 9 * μ 85 7) → F j = μ 94 j) ∧ (0 ≤ j ∧ j < 9 * μ 85 7 → (F j = 0 ∨ F j = 1) ∧ (F j = 1 ↔ μ 94 j = 1 ∧ ∀ i : Nat, i < n → ¬ μ 86 i = μ 87 (576 * k + i) → q_and (m_fM μ (j / 9) (j % 9) (i / 144)) (q_shl 1 (m_ti i)) = 0))
def m_bkr (μ : QM) (k : Int) (n : Nat) (ν : QM) : Prop := (∀ a j : Int, ¬ a = 86 → ¬ a = 94 → ¬ a = 95 → ¬ (a = 85 ∧ (j = 0 ∨ j = 1)) → ν a j = μ a j) ∧ (∀ j : Int, ν 86 j = if 0 ≤ j ∧ j < n then μ 87 (576 * k + j) else μ 86 j) ∧ m_bfr μ k n (ν 94)
def sp_X11_back : QP := fun ra μ K => match ra with
  | [.inl k, .inr (.inr this)] => this = 85 ∧ q_r k ∧ m_dim (μ 85 2) (μ 85 3) ∧ (0 ≤ μ 85 7 ∧ μ 85 7 ≤ 10) ∧ m_rok (μ 89) (μ 91) (μ 93) (fun b k => μ 92 (3 * b + k)) (μ 85 7) ∧ (∀ b t : Int, 0 ≤ b → b < μ 85 7 → 0 ≤ t → t < 9 → μ 94 (9 * b + t) = 0 ∨ (μ 94 (9 * b + t) = 1 ∧ m_tl (μ 85 2) (μ 85 3) t)) ∧ (∀ j : Int, q_r (μ 86 j) ∧ q_r (μ 87 j)) ∧ (∀ j : Int, μ 88 j = 0 ∨ μ 88 j = 1) ∧ (if 0 ≤ k ∧ k ≤ 2 then (μ 88 k = 0 → K (some (.inl (-6))) (q_up (q_up μ 85 0 0) 85 1 (-6))) ∧ (μ 88 k = 1 → (∀ i : Int, 0 ≤ i → i < 576 → ¬ m_in (μ 85 2) (μ 85 3) (i % 12) (i / 12 % 12) → μ 86 i = μ 87 (576 * k + i)) ∧ ∀ ν : QM, m_bkr μ k 576 ν → ν 85 0 = 0 → ν 85 1 = 0 → K (some (.inl (m_dfn (μ 86) (fun i => μ 87 (576 * k + i)) 576))) ν) else K (some (.inl (-1))) (q_up (q_up μ 85 0 0) 85 1 (-1)))
  | _ => False
theorem sp_X11_back_e (this k : Int) (μ : QM) (K : Option QV → QM → Prop) : sp_X11_back [.inl k, .inr (.inr this)] μ K = (this = 85 ∧ q_r k ∧ m_dim (μ 85 2) (μ 85 3) ∧ (0 ≤ μ 85 7 ∧ μ 85 7 ≤ 10) ∧ m_rok (μ 89) (μ 91) (μ 93) (fun b k => μ 92 (3 * b + k)) (μ 85 7) ∧ (∀ b t : Int, 0 ≤ b → b < μ 85 7 → 0 ≤ t → t < 9 → μ 94 (9 * b + t) = 0 ∨ (μ 94 (9 * b + t) = 1 ∧ m_tl (μ 85 2) (μ 85 3) t)) ∧ (∀ j : Int, q_r (μ 86 j) ∧ q_r (μ 87 j)) ∧ (∀ j : Int, μ 88 j = 0 ∨ μ 88 j = 1) ∧ (if 0 ≤ k ∧ k ≤ 2 then (μ 88 k = 0 → K (some (.inl (-6))) (q_up (q_up μ 85 0 0) 85 1 (-6))) ∧ (μ 88 k = 1 → (∀ i : Int, 0 ≤ i → i < 576 → ¬ m_in (μ 85 2) (μ 85 3) (i % 12) (i / 12 % 12) → μ 86 i = μ 87 (576 * k + i)) ∧ ∀ ν : QM, m_bkr μ k 576 ν → ν 85 0 = 0 → ν 85 1 = 0 → K (some (.inl (m_dfn (μ 86) (fun i => μ 87 (576 * k + i)) 576))) ν) else K (some (.inl (-1))) (q_up (q_up μ 85 0 0) 85 1 (-1)))) := propext Iff.rfl
theorem sp_X11_back_i {ra : List QV} {μ : QM} {K : Option QV → QM → Prop} (h : sp_X11_back ra μ K) : ∃ this k : Int, ra = [.inl k, .inr (.inr this)] ∧ (this = 85 ∧ q_r k ∧ m_dim (μ 85 2) (μ 85 3) ∧ (0 ≤ μ 85 7 ∧ μ 85 7 ≤ 10) ∧ m_rok (μ 89) (μ 91) (μ 93) (fun b k => μ 92 (3 * b + k)) (μ 85 7) ∧ (∀ b t : Int, 0 ≤ b → b < μ 85 7 → 0 ≤ t → t < 9 → μ 94 (9 * b + t) = 0 ∨ (μ 94 (9 * b + t) = 1 ∧ m_tl (μ 85 2) (μ 85 3) t)) ∧ (∀ j : Int, q_r (μ 86 j) ∧ q_r (μ 87 j)) ∧ (∀ j : Int, μ 88 j = 0 ∨ μ 88 j = 1) ∧ (if 0 ≤ k ∧ k ≤ 2 then (μ 88 k = 0 → K (some (.inl (-6))) (q_up (q_up μ 85 0 0) 85 1 (-6))) ∧ (μ 88 k = 1 → (∀ i : Int, 0 ≤ i → i < 576 → ¬ m_in (μ 85 2) (μ 85 3) (i % 12) (i / 12 % 12) → μ 86 i = μ 87 (576 * k + i)) ∧ ∀ ν : QM, m_bkr μ k 576 ν → ν 85 0 = 0 → ν 85 1 = 0 → K (some (.inl (m_dfn (μ 86) (fun i => μ 87 (576 * k + i)) 576))) ν) else K (some (.inl (-1))) (q_up (q_up μ 85 0 0) 85 1 (-1)))) := by
  unfold sp_X11_back at h
  split at h
  · exact ⟨_, _, rfl, h⟩
  · exact h.elim
def rm_X11_back : Room := { frames := 7, cells := 0, slots := 0, locals := 173 }
def G_X11_back : Nat → Nat × QP := fun i => match i with
  | 103 => (2, sp_X11_answer)
  | 117 => (5, sp_X11_put)
  | 95 => (3, sp_X11_in)
  | _ => (0, fun _ _ _ => False)
theorem G_X11_back_103 : G_X11_back 103 = (2, sp_X11_answer) := id rfl
theorem G_X11_back_117 : G_X11_back 117 = (5, sp_X11_put) := id rfl
theorem G_X11_back_95 : G_X11_back 95 = (3, sp_X11_in) := id rfl
theorem bk_put {μ ν : QM} {k : Int} {n : Nat} {g : Int → Int} (hn : n < 576) (h2 : 0 ≤ μ 85 7 ∧ μ 85 7 ≤ 10) (hr : m_bkr μ k n ν) (hd : ¬ μ 86 n = μ 87 (576 * k + n)) : m_bkr μ k (n + 1) (q_blk (q_blk (q_up ν 86 (144 * ((n : Int) / 144) + 12 * ((n : Int) / 12 % 12) + (n : Int) % 12) (ν 87 (576 * k + n))) 95 10 g) 94 90 (m_pf ν (ν 85 7) ((n : Int) / 144) (q_shl 1 (m_ti n)) (9 * ν 85 7))) := by
  obtain ⟨r1, r2, r3⟩ := hr
  have ei : 144 * ((n : Int) / 144) + 12 * ((n : Int) / 12 % 12) + (n : Int) % 12 = n := by omega
  rw [ei]
  refine ⟨fun a j n1 n2 n3 n4 => ?_, fun j => ?_, fun j => ?_⟩
  · rw [u_blk, if_neg (by omega), u_blk, if_neg (by omega), u_app, if_neg (by omega)]
    exact r1 a j n1 n2 n3 n4
  · rw [u_blk, if_neg (by omega), u_blk, if_neg (by omega), u_app]
    by_cases c : j = n
    · rw [if_pos ⟨rfl, c⟩, if_pos (by omega), r1 87 _ (by omega) (by omega) (by omega) (by omega), c]
    · rw [if_neg (by omega), r2 j]
      by_cases c2 : 0 ≤ j ∧ j < n
      · rw [if_pos c2, if_pos (by omega)]
      · rw [if_neg c2, if_neg (by omega)]
  · have e7 : ν 85 7 = μ 85 7 := r1 85 7 (by omega) (by omega) (by omega) (by omega)
    have e2 : ν 85 2 = μ 85 2 := r1 85 2 (by omega) (by omega) (by omega) (by omega)
    have e3 : ν 85 3 = μ 85 3 := r1 85 3 (by omega) (by omega) (by omega) (by omega)
    have e89 : ν 89 = μ 89 := funext fun j => r1 89 j (by omega) (by omega) (by omega) (by omega)
    have e91 : ν 91 = μ 91 := funext fun j => r1 91 j (by omega) (by omega) (by omega) (by omega)
    have e92 : ν 92 = μ 92 := funext fun j => r1 92 j (by omega) (by omega) (by omega) (by omega)
    have e93 : ν 93 = μ 93 := funext fun j => r1 93 j (by omega) (by omega) (by omega) (by omega)
    have hx : ∀ x : QM, q_blk x 94 90 (m_pf ν (ν 85 7) ((n : Int) / 144) (q_shl 1 (m_ti n)) (9 * ν 85 7)) 94 j = if 0 ≤ j ∧ j < 90 then m_pf ν (ν 85 7) ((n : Int) / 144) (q_shl 1 (m_ti n)) (9 * ν 85 7) j else x 94 j := fun x => by
      rw [u_blk]
      by_cases c : 0 ≤ j ∧ j < 90
      · rw [if_pos c, if_pos ⟨rfl, c⟩]
      · rw [if_neg c, if_neg (fun q => c q.2)]
    have hy : q_blk (q_up ν 86 (n : Int) (ν 87 (576 * k + n))) 95 10 g 94 j = ν 94 j := by
      rw [u_blk, if_neg (by omega), u_app, if_neg (by omega)]
    rw [hx, hy]
    obtain ⟨f1, f2⟩ := r3 j
    unfold m_pf
    rw [e7, e2, e3, e89, e91, e92, e93]
    refine ⟨fun c => ?_, fun c => ?_⟩
    · rw [if_neg (show ¬ (0 ≤ j ∧ j < 9 * μ 85 7 ∧ j < 9 * μ 85 7) by omega)]
      rw [ite_self]
      exact f1 c
    · by_cases c9 : j < 90
      · rw [if_pos ⟨c.1, c9⟩, if_pos ⟨c.1, c.2, c.2⟩]
        obtain ⟨f3, f4⟩ := f2 c
        by_cases c1 : ν 94 j = 1 ∧ q_and (m_fM μ (j / 9) (j % 9) ((n : Int) / 144)) (q_shl 1 (m_ti n)) = 0
        · rw [if_pos c1]
          refine ⟨Or.inr rfl, fun _ => ⟨(f4.mp c1.1).1, fun i hi hne => ?_⟩, fun _ => rfl⟩
          by_cases c2 : i = n
          · rw [c2]
            exact c1.2
          · exact (f4.mp c1.1).2 i (by omega) hne
        · rw [if_neg c1]
          refine ⟨Or.inl rfl, fun q => absurd q (by decide), fun q => absurd ⟨f4.mpr ⟨q.1, fun i hi hne => q.2 i (by omega) hne⟩, q.2 n (by omega) hd⟩ c1⟩
      · omega
theorem bk_43 {Rt : Option QV → QM → Prop} {S : Nat → QL → List QV → QM → Prop} (hR : q_Rule cX11_back 4 u_X11_back fl_X11 ld_X11 G_X11_back q_T 0 s_X11_back Rt S) {μ : QM} {k : Int} (hk : 0 ≤ k ∧ k ≤ 2) (h1 : m_dim (μ 85 2) (μ 85 3)) (h2 : 0 ≤ μ 85 7 ∧ μ 85 7 ≤ 10) (h3 : m_rok (μ 89) (μ 91) (μ 93) (fun b k => μ 92 (3 * b + k)) (μ 85 7)) (h4 : ∀ b t : Int, 0 ≤ b → b < μ 85 7 → 0 ≤ t → t < 9 → μ 94 (9 * b + t) = 0 ∨ (μ 94 (9 * b + t) = 1 ∧ m_tl (μ 85 2) (μ 85 3) t)) (h5 : ∀ j : Int, q_r (μ 86 j) ∧ q_r (μ 87 j)) (h6 : ∀ i : Int, 0 ≤ i → i < 576 → ¬ m_in (μ 85 2) (μ 85 3) (i % 12) (i / 12 % 12) → μ 86 i = μ 87 (576 * k + i)) (hK : ∀ ν : QM, m_bkr μ k 576 ν → ν 85 0 = 0 → Rt (some (.inl (m_dfn (μ 86) (fun i => μ 87 (576 * k + i)) 576))) (q_up ν 85 1 0)) : ∀ (d n : Nat) (ν : QM), n + d = 576 → m_bkr μ k n ν → ν 85 0 = 0 → S 43 [some (.inr (.inr 85)), some (.inl k), some (.inl (m_dfn (μ 86) (fun i => μ 87 (576 * k + i)) n)), some (.inl n)] [] ν := by
  intro d
  induction d with
  | zero =>
    intro n ν h0 hr h85
    obtain rfl : n = 576 := by omega
    have hb := m_dfn_b (μ 86) (fun i => μ 87 (576 * k + i)) 576
    refine hR 40 b_X11_back_43 43 _ _ _ o_X11_back_43 ?_
    simp only [v_opt_n, v_opt_s, v_nil, v_iconst, v_bipush, v_sipush, v_lconst0, v_lconst1, v_ldc, v_ldcw, v_ldc2, v_iload0, v_iload1, v_iload2, v_iload3, v_iload, v_lload0, v_lload1, v_lload2, v_lload3, v_lload, v_aload0, v_aload1, v_aload2, v_aload3, v_aload, v_istore0, v_istore1, v_istore2, v_istore3, v_istore, v_lstore0, v_lstore1, v_lstore2, v_lstore3, v_lstore, v_astore0, v_astore1, v_astore2, v_astore3, v_astore, v_iinc, v_iadd, v_isub, v_imul, v_iand, v_ior, v_ixor, v_ishl, v_ishr, v_iushr, v_ineg, v_idiv, v_irem, v_ladd, v_lsub, v_lmul, v_lcmp, v_i2l, v_l2i, v_i2c, v_dup, v_dup2, v_if_eq, v_if_ne, v_if_lt, v_if_ge, v_if_gt, v_if_le, v_ic_eq, v_ic_ne, v_ic_lt, v_ic_ge, v_ic_gt, v_ic_le, v_goto, v_tsw, v_lsw, v_ireturn, v_areturn, v_return, v_iaload, v_laload, v_baload, v_caload, v_aaload, v_iastore, v_lastore, v_bastore, v_castore, v_alen, v_invvi, v_invst, v_invsp, e_int, e_lng, e_ref, e_lg0, e_lg1, e_lg2, e_lg3, e_lg4, e_lg5, e_lg6, e_lg7, e_lg8, e_lg9, e_lg10, e_lg11, e_lg12, e_lg13, e_clrI, e_clrJ, e_clrP, e_clrN, e_s0, e_s1, e_s2, e_s3, e_s4, e_s5, e_s6, e_s7, e_s8, e_s9, e_s10, e_s11, e_s12, e_s13, e_t0, e_t1, e_t2, e_t3, e_t4, e_t5, e_t6, e_t7, e_t8, e_t9, e_t10, e_t11, e_t12, e_t13, e_fd, e_kk, e_k0, e_k1, e_k2, e_k3, e_k4, e_k5, e_k6, e_k7, e_k8, e_k9, e_sv0, e_sv1, e_sv2, e_sv3, e_svc, e_pf0, e_pf1, e_pf2, e_pf3, e_ar, e_aa, e_al, e_sw1, e_sw2, e_ct0, e_ct1, e_ct2, e_cat0, e_cat1, e_rk0, e_rk1, e_rk2, e_inv0, e_inv1, e_inv2, e_inv3, e_inv4, e_inv5, e_inv6, e_o0, e_o1, e_cl, e_cle, e_cg, e_cge, e_ce, e_cr1, e_cr2, e_r, e_R, e_up, Int.cast_ofNat_Int, u_app, false_and, and_false, e_b0, e_b1, e_bn, e_bl, e_bu, Int.reduceLE, Int.reduceLT, Int.reduceEq, Int.reduceNeg, Int.reduceAdd, Int.reduceSub, Int.reduceMul, Nat.reduceLeDiff, Nat.reduceLT, Nat.reduceAdd, Nat.reduceEqDiff, true_and, and_true, true_or, or_true, false_or, or_false, forall_const, not_true_eq_false, not_false_eq_true, true_implies, false_implies, implies_true, and_self, zero_ne_one, one_ne_zero, eq_self, reduceIte, s_X11_back_0, b_X11_back_0, s_X11_back_17, b_X11_back_17, s_X11_back_23, b_X11_back_23, s_X11_back_32, b_X11_back_32, s_X11_back_39, b_X11_back_39, s_X11_back_43, b_X11_back_43, s_X11_back_50, b_X11_back_50, s_X11_back_71, b_X11_back_71, s_X11_back_106, b_X11_back_106, s_X11_back_112, b_X11_back_112, g_X11_85, p_X11_85, g_X11_23, g_X11_16, g_X11_20, ld_X11_99, G_X11_back_103, sp_X11_answer_e, G_X11_back_117, sp_X11_put_e, G_X11_back_95, sp_X11_in_e, T_86, T_87]
    refine ⟨by omega, ?_⟩
    rw [if_neg (by omega)]
    exact hK ν hr h85
  | succ d ih =>
    intro n ν h0 hr h85
    obtain ⟨r1, r2, r3⟩ := id hr
    have e86 : ν 86 n = μ 86 n := by rw [r2, if_neg (by omega)]
    have e87 : ν 87 (576 * k + n) = μ 87 (576 * k + n) := r1 87 _ (by omega) (by omega) (by omega) (by omega)
    have e7 : ν 85 7 = μ 85 7 := r1 85 7 (by omega) (by omega) (by omega) (by omega)
    have e2 : ν 85 2 = μ 85 2 := r1 85 2 (by omega) (by omega) (by omega) (by omega)
    have e3 : ν 85 3 = μ 85 3 := r1 85 3 (by omega) (by omega) (by omega) (by omega)
    have e89 : ν 89 = μ 89 := funext fun j => r1 89 j (by omega) (by omega) (by omega) (by omega)
    have e91 : ν 91 = μ 91 := funext fun j => r1 91 j (by omega) (by omega) (by omega) (by omega)
    have e92 : ν 92 = μ 92 := funext fun j => r1 92 j (by omega) (by omega) (by omega) (by omega)
    have e93 : ν 93 = μ 93 := funext fun j => r1 93 j (by omega) (by omega) (by omega) (by omega)
    have q5 := h5 n
    have q6 := h5 (576 * k + n)
    have hbb := m_dfn_b (μ 86) (fun i => μ 87 (576 * k + i)) n
    have hs := m_dfn_s (μ 86) (fun i => μ 87 (576 * k + i)) n
    refine hR 60 b_X11_back_43 43 _ _ _ o_X11_back_43 ?_
    simp only [v_opt_n, v_opt_s, v_nil, v_iconst, v_bipush, v_sipush, v_lconst0, v_lconst1, v_ldc, v_ldcw, v_ldc2, v_iload0, v_iload1, v_iload2, v_iload3, v_iload, v_lload0, v_lload1, v_lload2, v_lload3, v_lload, v_aload0, v_aload1, v_aload2, v_aload3, v_aload, v_istore0, v_istore1, v_istore2, v_istore3, v_istore, v_lstore0, v_lstore1, v_lstore2, v_lstore3, v_lstore, v_astore0, v_astore1, v_astore2, v_astore3, v_astore, v_iinc, v_iadd, v_isub, v_imul, v_iand, v_ior, v_ixor, v_ishl, v_ishr, v_iushr, v_ineg, v_idiv, v_irem, v_ladd, v_lsub, v_lmul, v_lcmp, v_i2l, v_l2i, v_i2c, v_dup, v_dup2, v_if_eq, v_if_ne, v_if_lt, v_if_ge, v_if_gt, v_if_le, v_ic_eq, v_ic_ne, v_ic_lt, v_ic_ge, v_ic_gt, v_ic_le, v_goto, v_tsw, v_lsw, v_ireturn, v_areturn, v_return, v_iaload, v_laload, v_baload, v_caload, v_aaload, v_iastore, v_lastore, v_bastore, v_castore, v_alen, v_invvi, v_invst, v_invsp, e_int, e_lng, e_ref, e_lg0, e_lg1, e_lg2, e_lg3, e_lg4, e_lg5, e_lg6, e_lg7, e_lg8, e_lg9, e_lg10, e_lg11, e_lg12, e_lg13, e_clrI, e_clrJ, e_clrP, e_clrN, e_s0, e_s1, e_s2, e_s3, e_s4, e_s5, e_s6, e_s7, e_s8, e_s9, e_s10, e_s11, e_s12, e_s13, e_t0, e_t1, e_t2, e_t3, e_t4, e_t5, e_t6, e_t7, e_t8, e_t9, e_t10, e_t11, e_t12, e_t13, e_fd, e_kk, e_k0, e_k1, e_k2, e_k3, e_k4, e_k5, e_k6, e_k7, e_k8, e_k9, e_sv0, e_sv1, e_sv2, e_sv3, e_svc, e_pf0, e_pf1, e_pf2, e_pf3, e_ar, e_aa, e_al, e_sw1, e_sw2, e_ct0, e_ct1, e_ct2, e_cat0, e_cat1, e_rk0, e_rk1, e_rk2, e_inv0, e_inv1, e_inv2, e_inv3, e_inv4, e_inv5, e_inv6, e_o0, e_o1, e_cl, e_cle, e_cg, e_cge, e_ce, e_cr1, e_cr2, e_r, e_R, e_up, Int.cast_ofNat_Int, u_app, false_and, and_false, e_b0, e_b1, e_bn, e_bl, e_bu, Int.reduceLE, Int.reduceLT, Int.reduceEq, Int.reduceNeg, Int.reduceAdd, Int.reduceSub, Int.reduceMul, Nat.reduceLeDiff, Nat.reduceLT, Nat.reduceAdd, Nat.reduceEqDiff, true_and, and_true, true_or, or_true, false_or, or_false, forall_const, not_true_eq_false, not_false_eq_true, true_implies, false_implies, implies_true, and_self, zero_ne_one, one_ne_zero, eq_self, reduceIte, s_X11_back_0, b_X11_back_0, s_X11_back_17, b_X11_back_17, s_X11_back_23, b_X11_back_23, s_X11_back_32, b_X11_back_32, s_X11_back_39, b_X11_back_39, s_X11_back_43, b_X11_back_43, s_X11_back_50, b_X11_back_50, s_X11_back_71, b_X11_back_71, s_X11_back_106, b_X11_back_106, s_X11_back_112, b_X11_back_112, g_X11_85, p_X11_85, g_X11_23, g_X11_16, g_X11_20, ld_X11_99, G_X11_back_103, sp_X11_answer_e, G_X11_back_117, sp_X11_put_e, G_X11_back_95, sp_X11_in_e, T_86, T_87, e86, e87]
    refine ⟨by omega, fun c => by omega, fun c => ⟨by omega, by omega, by omega, by omega, ⟨q5.1, q6.2⟩, fun c1 => ?_, fun c1 => ⟨by omega, by omega, by omega, by omega, by omega, by omega, ?_, ?_, ?_, ?_, ?_, fun g => ?_⟩⟩⟩
    · rw [if_pos c1] at hs
      have := ih (n + 1) ν (by omega) ⟨r1, fun j => ?_, fun j => ⟨(r3 j).1, fun q => ⟨((r3 j).2 q).1, ?_⟩⟩⟩ h85
      · rw [hs, Int.add_zero] at this
        exact this
      · rw [r2 j]
        by_cases c2 : 0 ≤ j ∧ j < n
        · rw [if_pos c2, if_pos (by omega)]
        · rw [if_neg c2]
          by_cases c3 : j = n
          · rw [if_pos (by omega), c3]
            exact c1
          · rw [if_neg (by omega)]
      · rw [((r3 j).2 q).2]
        refine ⟨fun p => ⟨p.1, fun i hi hne => ?_⟩, fun p => ⟨p.1, fun i hi hne => p.2 i (by omega) hne⟩⟩
        by_cases c2 : i = n
        · rw [c2] at hne
          exact absurd c1 hne
        · exact p.2 i (by omega) hne
    · have hin : m_in (μ 85 2) (μ 85 3) ((n : Int) % 12) ((n : Int) / 12 % 12) := Classical.byContradiction fun q => c1 (h6 n (by omega) (by omega) q)
      rw [e2, e3]
      obtain ⟨i1, i2, i3, i4⟩ := hin
      exact ⟨by omega, by omega, i1, i2, i3, i4⟩
    · rw [e2, e3]
      exact h1
    · rw [e7]
      exact h2
    · rw [e7, e89, e91, e92, e93]
      exact h3
    · rw [e7, e2, e3]
      intro b t b0 b1 t0 t1
      obtain ⟨f3, f4⟩ := (r3 (9 * b + t)).2 (by omega)
      rcases f3 with q | q
      · exact Or.inl q
      · rcases h4 b t b0 b1 t0 t1 with p | p
        · have := (f4.mp q).1
          omega
        · exact Or.inr ⟨q, p.2⟩
    · rw [if_neg c1] at hs
      have hb2 := bk_put (g := g) (by omega) h2 hr c1
      rw [e87] at hb2
      have := ih (n + 1) _ (by omega) hb2 ?_
      · rw [hs, Int.natCast_add] at this
        exact this
      · rw [u_blk, if_neg (by omega), u_blk, if_neg (by omega), u_app, if_neg (by omega)]
        exact h85
set_option maxRecDepth 100000 in
set_option maxHeartbeats 4000000 in
theorem B_X11_back : q_Body cX11_back 4 u_X11_back fl_X11 ld_X11 G_X11_back q_T 0 s_X11_back sp_X11_back := by
  intro S Rt hR ra μ h
  obtain ⟨this, k, rfl, h⟩ := sp_X11_back_i h
  refine ⟨by simp [q_sl, q_ct], ?_⟩
  show S 0 [some (.inr (.inr this)), some (.inl k), none, none] [] μ
  obtain ⟨rfl, h0, h1, h2, h3, h4, h5, h6, hk⟩ := h
  have h7 := h6 k
  refine hR 40 [] 0 _ _ _ rfl ?_
  simp only [v_opt_n, v_opt_s, v_nil, v_iconst, v_bipush, v_sipush, v_lconst0, v_lconst1, v_ldc, v_ldcw, v_ldc2, v_iload0, v_iload1, v_iload2, v_iload3, v_iload, v_lload0, v_lload1, v_lload2, v_lload3, v_lload, v_aload0, v_aload1, v_aload2, v_aload3, v_aload, v_istore0, v_istore1, v_istore2, v_istore3, v_istore, v_lstore0, v_lstore1, v_lstore2, v_lstore3, v_lstore, v_astore0, v_astore1, v_astore2, v_astore3, v_astore, v_iinc, v_iadd, v_isub, v_imul, v_iand, v_ior, v_ixor, v_ishl, v_ishr, v_iushr, v_ineg, v_idiv, v_irem, v_ladd, v_lsub, v_lmul, v_lcmp, v_i2l, v_l2i, v_i2c, v_dup, v_dup2, v_if_eq, v_if_ne, v_if_lt, v_if_ge, v_if_gt, v_if_le, v_ic_eq, v_ic_ne, v_ic_lt, v_ic_ge, v_ic_gt, v_ic_le, v_goto, v_tsw, v_lsw, v_ireturn, v_areturn, v_return, v_iaload, v_laload, v_baload, v_caload, v_aaload, v_iastore, v_lastore, v_bastore, v_castore, v_alen, v_invvi, v_invst, v_invsp, e_int, e_lng, e_ref, e_lg0, e_lg1, e_lg2, e_lg3, e_lg4, e_lg5, e_lg6, e_lg7, e_lg8, e_lg9, e_lg10, e_lg11, e_lg12, e_lg13, e_clrI, e_clrJ, e_clrP, e_clrN, e_s0, e_s1, e_s2, e_s3, e_s4, e_s5, e_s6, e_s7, e_s8, e_s9, e_s10, e_s11, e_s12, e_s13, e_t0, e_t1, e_t2, e_t3, e_t4, e_t5, e_t6, e_t7, e_t8, e_t9, e_t10, e_t11, e_t12, e_t13, e_fd, e_kk, e_k0, e_k1, e_k2, e_k3, e_k4, e_k5, e_k6, e_k7, e_k8, e_k9, e_sv0, e_sv1, e_sv2, e_sv3, e_svc, e_pf0, e_pf1, e_pf2, e_pf3, e_ar, e_aa, e_al, e_sw1, e_sw2, e_ct0, e_ct1, e_ct2, e_cat0, e_cat1, e_rk0, e_rk1, e_rk2, e_inv0, e_inv1, e_inv2, e_inv3, e_inv4, e_inv5, e_inv6, e_o0, e_o1, e_cl, e_cle, e_cg, e_cge, e_ce, e_cr1, e_cr2, e_r, e_R, e_up, Int.cast_ofNat_Int, u_app, false_and, and_false, e_b0, e_b1, e_bn, e_bl, e_bu, Int.reduceLE, Int.reduceLT, Int.reduceEq, Int.reduceNeg, Int.reduceAdd, Int.reduceSub, Int.reduceMul, Nat.reduceLeDiff, Nat.reduceLT, Nat.reduceAdd, Nat.reduceEqDiff, true_and, and_true, true_or, or_true, false_or, or_false, forall_const, not_true_eq_false, not_false_eq_true, true_implies, false_implies, implies_true, and_self, zero_ne_one, one_ne_zero, eq_self, reduceIte, s_X11_back_0, b_X11_back_0, s_X11_back_17, b_X11_back_17, s_X11_back_23, b_X11_back_23, s_X11_back_32, b_X11_back_32, s_X11_back_39, b_X11_back_39, s_X11_back_43, b_X11_back_43, s_X11_back_50, b_X11_back_50, s_X11_back_71, b_X11_back_71, s_X11_back_106, b_X11_back_106, s_X11_back_112, b_X11_back_112, g_X11_85, p_X11_85, g_X11_23, g_X11_16, g_X11_20, ld_X11_99, G_X11_back_103, sp_X11_answer_e, G_X11_back_117, sp_X11_put_e, G_X11_back_95, sp_X11_in_e, T_88]
  refine ⟨h0, by omega, fun c => ?_, fun c => by rw [if_neg c] at hk; exact hk⟩
  have c := Classical.not_not.mp c
  rw [if_pos c] at hk
  refine ⟨c.1, by omega, by omega, fun c1 => ?_, hk.1⟩
  obtain ⟨k1, k2⟩ := hk.2 (by omega)
  refine bk_43 (μ := μ) hR c h1 h2 h3 h4 h5 k1 (fun ν hr h85 => k2 _ ⟨fun a j n1 n2 n3 n4 => ?_, fun j => ?_, fun j => ?_⟩ ?_ ?_) 576 0 _ (by omega) ⟨fun a j n1 n2 n3 n4 => ?_, fun j => ?_, fun j => ⟨fun _ => ?_, fun q => ⟨?_, ?_⟩⟩⟩ ?_
  · rw [u_app, if_neg (by omega)]
    exact hr.1 a j n1 n2 n3 n4
  · rw [u_app, if_neg (by omega)]
    exact hr.2.1 j
  · rw [u_app, if_neg (by omega)]
    exact hr.2.2 j
  · rw [u_app, if_neg (by omega)]
    exact h85
  · rw [u_app, if_pos ⟨rfl, rfl⟩]
  · rw [u_app, if_neg (by omega)]
  · rw [u_app, if_neg (by omega), if_neg (by omega)]
  · rw [u_app, if_neg (by omega)]
  · rw [u_app, if_neg (by omega)]
    have := h4 (j / 9) (j % 9) (by omega) (by omega) (by omega) (by omega)
    rw [show 9 * (j / 9) + j % 9 = j by omega] at this
    rcases this with p | p
    · exact Or.inl p
    · exact Or.inr p.1
  · rw [u_app, if_neg (by omega)]
    exact ⟨fun q => ⟨q, fun i hi => by omega⟩, fun q => q.1⟩
  · rw [u_app, if_pos ⟨rfl, rfl⟩]
set_option maxRecDepth 100000 in
theorem C_X11_back {l : Launch} {ad : Int → Nat} {D : va_G} {cy : Nat → ClassId} {Z : State → Prop} (hZ : q_Zg ad Z) : q_Ct l q_T q_N ad D cy Z yX11_back cX11_back 4 (some .int) rm_X11_back sp_X11_back := by
  obtain ⟨hf, hg, hld⟩ := q_chkS k_X11_back
  refine q_met (rk := 0) q_wokT (by decide) rfl hf hg hld rfl (q_skS L_X11_back o_X11_back) ?_ ?_ ?_ ?_ B_X11_back
  · intro i hi; exact absurd hi List.not_mem_nil
  · intro i hi
    have hi : i = 103 ∨ i = 117 := by simpa [u_X11_back] using hi
    rcases hi with rfl | rfl
    · exact q_crV hZ.1 (C_X11_answer hZ) rv_X11_answer cm_X11_answer (by decide +kernel) (by decide +kernel) (by decide +kernel) (by decide +kernel) (by decide +kernel) ⟨rfl, rfl⟩ (by decide)
    · exact q_crV hZ.1 (C_X11_put hZ) rv_X11_put cm_X11_put (by decide +kernel) (by decide +kernel) (by decide +kernel) (by decide +kernel) (by decide +kernel) ⟨rfl, rfl⟩ (by decide)
  · intro i hi
    have hi : i = 95 := by simpa [u_X11_back] using hi
    rcases hi with rfl
    · exact q_crS hZ.1 (C_X11_in hZ) cm_X11_in (by decide +kernel) (by decide +kernel) (by decide +kernel) (by decide +kernel) ⟨rfl, rfl⟩ (by decide)
  · intro i hi; exact absurd hi List.not_mem_nil
theorem rv_X11_back : q_rcv q_T yX11_back.cls sp_X11_back := by
  intro ra μ K h
  obtain ⟨this, k, rfl, h⟩ := sp_X11_back_i h
  obtain rfl := h.1
  exact ⟨[.inl k], 85, 11, _, _, rfl, T_85, rfl, rfl⟩
theorem cm_X11_back : Cond.code yX11_back cX11_back 4 (some .int) ∈ q_tb := by decide +kernel

