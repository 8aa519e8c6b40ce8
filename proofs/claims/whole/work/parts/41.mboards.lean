/-! the boards of one text -/
def m_bs (T : Int → Int) (L : Int) : Nat → Nat × (Int → Int)
  | 0 => (0, fun _ => -1)
  | n + 1 => ((m_rdb T L (m_bs T L n).2 n (m_bs T L n).1).2 + 1, fun j => if j = m_lt T L (m_bs T L n).1 then (n : Int) else (m_bs T L n).2 j)
def m_rs (T : Int → Int) (L : Int) (n : Nat) : Int × Nat := m_rdb T L (m_bs T L n).2 n (m_bs T L n).1
def m_bk (T : Int → Int) (L : Int) (n : Nat) : Int := m_kb T L (m_bs T L n).2 n (m_bs T L n).1
def m_bm (T : Int → Int) (L : Int) (n : Nat) : (Int × Nat) × Int × Int × (Int → Int) := m_mb T L (m_bs T L n).2 n (m_bs T L n).1
abbrev m_good (T : Int → Int) (L : Int) (n : Nat) : Prop := (m_rs T L n).1 = 0 ∧ m_kd T L (m_rs T L n).2 = 4 ∧ m_cd T L (m_rs T L n).2 = 59
def m_run (T : Int → Int) (L : Int) (n : Nat) : Prop := (∀ m : Nat, m < n → m_good T L m) ∧ ¬ m_good T L n
theorem m_bs_i (T : Int → Int) (L : Int) (n : Nat) : (m_bs T L (n + 1)).1 = (m_rs T L n).2 + 1 := id rfl
theorem m_bs_n (T : Int → Int) (L : Int) (n : Nat) (j : Int) : (m_bs T L (n + 1)).2 j = if j = m_lt T L (m_bs T L n).1 then (n : Int) else (m_bs T L n).2 j := id rfl
theorem m_bs_r (T : Int → Int) (L : Int) : ∀ (n : Nat) (j : Int), -1 ≤ (m_bs T L n).2 j ∧ (m_bs T L n).2 j < n
  | 0, j => by
    show -1 ≤ (-1 : Int) ∧ (-1 : Int) < ((0 : Nat) : Int)
    omega
  | n + 1, j => by
    rw [m_bs_n]
    have := m_bs_r T L n j
    split <;> omega
theorem m_h1_10 (T : Int → Int) (L : Int) (nm : Int → Int) (nB : Int) (i : Nat) (hn : 10 ≤ nB) : (m_rdb T L nm nB i).1 = 1 := by
  have e : m_h1 T L nm nB i = (1, i) := by
    unfold m_h1 m_ms
    rw [if_neg (by simp), q_b, if_neg (by omega), if_neg (by simp)]
  have e2 : m_hd T L nm nB i = (1, i) := by
    unfold m_hd
    rw [e]
    unfold m_h3 m_h2 m_ms
    simp
  unfold m_rdb
  rw [e2]
  simp
theorem m_run_le {T : Int → Int} {L : Int} {n : Nat} (h : m_run T L n) : n ≤ 10 := by
  by_cases c : n ≤ 10
  · exact c
  · have := (h.1 10 (by omega)).1
    have h2 : (m_rs T L 10).1 = 1 := m_h1_10 T L _ _ _ (by decide)
    omega
theorem m_run_ex (T : Int → Int) (L : Int) : ∃ n, m_run T L n := by
  have h10 : ¬ m_good T L 10 := fun q => by
    have h2 : (m_rs T L 10).1 = 1 := m_h1_10 T L _ _ _ (by decide)
    omega
  have : ∀ k : Nat, k ≤ 10 → (∀ m : Nat, m < k → m_good T L m) ∨ ∃ n, m_run T L n := by
    intro k
    induction k with
    | zero => intro _; exact Or.inl (fun m hm => by omega)
    | succ k ih =>
      intro hk
      rcases ih (by omega) with q | q
      · by_cases c : m_good T L k
        · refine Or.inl (fun m hm => ?_)
          by_cases c2 : m = k
          · rw [c2]; exact c
          · exact q m (by omega)
        · exact Or.inr ⟨k, q, c⟩
      · exact Or.inr q
  rcases this 10 (by omega) with q | q
  · exact ⟨10, q, h10⟩
  · exact q
theorem m_run_un {T : Int → Int} {L : Int} {n m : Nat} (h1 : m_run T L n) (h2 : m_run T L m) : n = m := by
  rcases Nat.lt_trichotomy n m with c | c | c
  · exact absurd (h2.1 n c) h1.2
  · exact c
  · exact absurd (h1.1 m c) h2.2
/-- boards in a memory's rows -/
def m_bt (T : Int → Int) (L : Int) (a0 a1 a2 a3 a4 : Int) (c : Nat) (ν : QM) : Prop := ∀ b : Nat, b < c → ν a0 b = m_bk T L b ∧ ν a1 b = (m_bm T L b).2.2.1 ∧ ν a2 b = (m_bm T L b).2.1 ∧ ν a3 b = m_mn (m_bk T L b) ∧ ∀ k : Int, 0 ≤ k → k < m_mn (m_bk T L b) → ν a4 (3 * b + k) = (m_bm T L b).2.2.2 k
/-- what stays -/
def m_fb (μ ν : QM) : Prop := (∀ a j : Int, ¬ (a = 85 ∧ (j = 0 ∨ j = 23 ∨ 32 ≤ j ∧ j ≤ 37)) → ¬ (99 ≤ a ∧ a ≤ 103) → ¬ a = 104 → ν a j = μ a j) ∧ ν 85 0 = 0 ∧ (∀ j : Int, j < 0 ∨ 26 ≤ j → ν 104 j = -1)
/-- after board m -/
def m_af (T : Int → Int) (L : Int) (μ : QM) (m : Nat) (ν : QM) : Prop := m_ps T L (m_rs T L m) ν ∧ m_fb μ ν ∧ ((m_rs T L m).1 = 0 → ν 85 23 = m + 1 ∧ m_bt T L 99 100 101 103 102 (m + 1) ν ∧ ∀ j : Int, ν 104 j = (m_bs T L (m + 1)).2 j)
/-- what stays at the end -/
def m_fe (μ ν : QM) : Prop := (∀ a j : Int, ¬ (a = 85 ∧ (j = 0 ∨ j = 1 ∨ j = 7 ∨ j = 23 ∨ 31 ≤ j ∧ j ≤ 37)) → ¬ (89 ≤ a ∧ a ≤ 94) → ¬ (99 ≤ a ∧ a ≤ 103) → ¬ a = 104 → ν a j = μ a j) ∧ ν 85 0 = 0 ∧ ν 85 31 = 0 ∧ (∀ j : Int, j < 0 ∨ 26 ≤ j → ν 104 j = -1)
def sp_X11_boards : QP := fun ra μ K => match ra with
  | [.inr (.inr this)] => this = 85 ∧ (∀ j : Int, j < 0 ∨ 26 ≤ j → μ 104 j = -1) ∧ m_tp (μ 105) (μ 85 31) ∧ ∃ n : Nat, m_run (μ 105) (μ 85 31) n ∧ ∀ ν : QM, m_fe μ ν → (¬ ((m_rs (μ 105) (μ 85 31) n).1 = 0 ∧ m_kd (μ 105) (μ 85 31) (m_rs (μ 105) (μ 85 31) n).2 = 0) → ν 85 36 = m_pl (μ 105) (μ 85 31) (m_rs (μ 105) (μ 85 31) n).2 → ν 85 1 = -6 → (∀ a j : Int, 89 ≤ a ∧ a ≤ 94 ∨ a = 85 ∧ j = 7 → ν a j = μ a j) → K (some (.inl (-6))) ν) ∧ ((m_rs (μ 105) (μ 85 31) n).1 = 0 ∧ m_kd (μ 105) (μ 85 31) (m_rs (μ 105) (μ 85 31) n).2 = 0 → ν 85 36 = -1 → ν 85 1 = 0 → ν 85 7 = n + 1 → m_bt (μ 105) (μ 85 31) 89 90 91 93 92 (n + 1) ν → (∀ j : Int, 0 ≤ j → j < 90 → ν 94 j = 0) → (∀ a j : Int, 89 ≤ a → a ≤ 94 → j < 0 → ν a j = μ a j) → K (some (.inl (n + 1))) ν)
  | _ => False
theorem sp_X11_boards_e (this : Int) (μ : QM) (K : Option QV → QM → Prop) : sp_X11_boards [.inr (.inr this)] μ K = (this = 85 ∧ (∀ j : Int, j < 0 ∨ 26 ≤ j → μ 104 j = -1) ∧ m_tp (μ 105) (μ 85 31) ∧ ∃ n : Nat, m_run (μ 105) (μ 85 31) n ∧ ∀ ν : QM, m_fe μ ν → (¬ ((m_rs (μ 105) (μ 85 31) n).1 = 0 ∧ m_kd (μ 105) (μ 85 31) (m_rs (μ 105) (μ 85 31) n).2 = 0) → ν 85 36 = m_pl (μ 105) (μ 85 31) (m_rs (μ 105) (μ 85 31) n).2 → ν 85 1 = -6 → (∀ a j : Int, 89 ≤ a ∧ a ≤ 94 ∨ a = 85 ∧ j = 7 → ν a j = μ a j) → K (some (.inl (-6))) ν) ∧ ((m_rs (μ 105) (μ 85 31) n).1 = 0 ∧ m_kd (μ 105) (μ 85 31) (m_rs (μ 105) (μ 85 31) n).2 = 0 → ν 85 36 = -1 → ν 85 1 = 0 → ν 85 7 = n + 1 → m_bt (μ 105) (μ 85 31) 89 90 91 93 92 (n + 1) ν → (∀ j : Int, 0 ≤ j → j < 90 → ν 94 j = 0) → (∀ a j : Int, 89 ≤ a → a ≤ 94 → j < 0 → ν a j = μ a j) → K (some (.inl (n + 1))) ν)) := propext Iff.rfl
theorem sp_X11_boards_i {ra : List QV} {μ : QM} {K : Option QV → QM → Prop} (h : sp_X11_boards ra μ K) : ∃ this : Int, ra = [.inr (.inr this)] ∧ (this = 85 ∧ (∀ j : Int, j < 0 ∨ 26 ≤ j → μ 104 j = -1) ∧ m_tp (μ 105) (μ 85 31) ∧ ∃ n : Nat, m_run (μ 105) (μ 85 31) n ∧ ∀ ν : QM, m_fe μ ν → (¬ ((m_rs (μ 105) (μ 85 31) n).1 = 0 ∧ m_kd (μ 105) (μ 85 31) (m_rs (μ 105) (μ 85 31) n).2 = 0) → ν 85 36 = m_pl (μ 105) (μ 85 31) (m_rs (μ 105) (μ 85 31) n).2 → ν 85 1 = -6 → (∀ a j : Int, 89 ≤ a ∧ a ≤ 94 ∨ a = 85 ∧ j = 7 → ν a j = μ a j) → K (some (.inl (-6))) ν) ∧ ((m_rs (μ 105) (μ 85 31) n).1 = 0 ∧ m_kd (μ 105) (μ 85 31) (m_rs (μ 105) (μ 85 31) n).2 = 0 → ν 85 36 = -1 → ν 85 1 = 0 → ν 85 7 = n + 1 → m_bt (μ 105) (μ 85 31) 89 90 91 93 92 (n + 1) ν → (∀ j : Int, 0 ≤ j → j < 90 → ν 94 j = 0) → (∀ a j : Int, 89 ≤ a → a ≤ 94 → j < 0 → ν a j = μ a j) → K (some (.inl (n + 1))) ν)) := by
  unfold sp_X11_boards at h
  split at h
  · exact ⟨_, rfl, h⟩
  · exact h.elim
def rm_X11_boards : Room := { frames := 5, cells := 0, slots := 0, locals := 111 }
def G_X11_boards : Nat → Nat × QP := fun i => match i with
  | 254 => (1, sp_X11_next)
  | 288 => (1, sp_X11_readBoard)
  | 272 => (2, sp_X11_isSign)
  | 257 => (2, sp_X11_must)
  | 103 => (2, sp_X11_answer)
  | 92 => (1, sp_X11_staleAll)
  | _ => (0, fun _ _ _ => False)
theorem G_X11_boards_254 : G_X11_boards 254 = (1, sp_X11_next) := id rfl
theorem G_X11_boards_288 : G_X11_boards 288 = (1, sp_X11_readBoard) := id rfl
theorem G_X11_boards_272 : G_X11_boards 272 = (2, sp_X11_isSign) := id rfl
theorem G_X11_boards_257 : G_X11_boards 257 = (2, sp_X11_must) := id rfl
theorem G_X11_boards_103 : G_X11_boards 103 = (2, sp_X11_answer) := id rfl
theorem G_X11_boards_92 : G_X11_boards 92 = (1, sp_X11_staleAll) := id rfl
theorem bo_27 {Rt : Option QV → QM → Prop} {S : Nat → QL → List QV → QM → Prop} (hR : q_Rule cX11_boards 3 u_X11_boards fl_X11 ld_X11 G_X11_boards q_T 0 s_X11_boards Rt S) : ∀ (n : Nat) (i : Int) (μ : QM), 0 ≤ i → i ≤ 26 → 26 - i < n → (∀ (ν : QM) (l1 : Option QV), ν = q_fill μ 104 i 26 (-1) → m_tap ν ∧ (0 ≤ ν 85 33 ∧ ν 85 33 ≤ ν 85 31) ∧ sp_X11_readBoard [.inr (.inr 85)] (m_nxt ν) (fun _ ν => S 54 [some (.inr (.inr 85)), l1, none] [] ν)) → S 27 [some (.inr (.inr 85)), some (.inl i), none] [] μ := by
  intro n
  induction n with
  | zero => intro i μ h1 h2 h3; omega
  | succ n ih =>
    intro i μ h1 h2 h3 hk
    refine hR 40 b_X11_boards_27 27 _ _ _ o_X11_boards_27 ?_
    simp only [v_opt_n, v_opt_s, v_nil, v_iconst, v_bipush, v_sipush, v_lconst0, v_lconst1, v_ldc, v_ldcw, v_ldc2, v_iload0, v_iload1, v_iload2, v_iload3, v_iload, v_lload0, v_lload1, v_lload2, v_lload3, v_lload, v_aload0, v_aload1, v_aload2, v_aload3, v_aload, v_istore0, v_istore1, v_istore2, v_istore3, v_istore, v_lstore0, v_lstore1, v_lstore2, v_lstore3, v_lstore, v_astore0, v_astore1, v_astore2, v_astore3, v_astore, v_iinc, v_iadd, v_isub, v_imul, v_iand, v_ior, v_ixor, v_ishl, v_ishr, v_iushr, v_ineg, v_idiv, v_irem, v_ladd, v_lsub, v_lmul, v_lcmp, v_i2l, v_l2i, v_i2c, v_dup, v_dup2, v_if_eq, v_if_ne, v_if_lt, v_if_ge, v_if_gt, v_if_le, v_ic_eq, v_ic_ne, v_ic_lt, v_ic_ge, v_ic_gt, v_ic_le, v_goto, v_tsw, v_lsw, v_ireturn, v_areturn, v_return, v_iaload, v_laload, v_baload, v_caload, v_aaload, v_iastore, v_lastore, v_bastore, v_castore, v_alen, v_invvi, v_invst, v_invsp, e_int, e_lng, e_ref, e_lg0, e_lg1, e_lg2, e_lg3, e_lg4, e_lg5, e_lg6, e_lg7, e_lg8, e_lg9, e_lg10, e_lg11, e_lg12, e_lg13, e_clrI, e_clrJ, e_clrP, e_clrN, e_s0, e_s1, e_s2, e_s3, e_s4, e_s5, e_s6, e_s7, e_s8, e_s9, e_s10, e_s11, e_s12, e_s13, e_t0, e_t1, e_t2, e_t3, e_t4, e_t5, e_t6, e_t7, e_t8, e_t9, e_t10, e_t11, e_t12, e_t13, e_fd, e_kk, e_k0, e_k1, e_k2, e_k3, e_k4, e_k5, e_k6, e_k7, e_k8, e_k9, e_sv0, e_sv1, e_sv2, e_sv3, e_svc, e_pf0, e_pf1, e_pf2, e_pf3, e_ar, e_aa, e_al, e_sw1, e_sw2, e_ct0, e_ct1, e_ct2, e_cat0, e_cat1, e_rk0, e_rk1, e_rk2, e_inv0, e_inv1, e_inv2, e_inv3, e_inv4, e_inv5, e_inv6, e_o0, e_o1, e_cl, e_cle, e_cg, e_cge, e_ce, e_cr1, e_cr2, e_r, e_R, e_up, Int.cast_ofNat_Int, u_app, false_and, and_false, e_b0, e_b1, e_bn, e_bl, e_bu, Int.reduceLE, Int.reduceLT, Int.reduceEq, Int.reduceNeg, Int.reduceAdd, Int.reduceSub, Int.reduceMul, Nat.reduceLeDiff, Nat.reduceLT, Nat.reduceAdd, Nat.reduceEqDiff, true_and, and_true, true_or, or_true, false_or, or_false, forall_const, not_true_eq_false, not_false_eq_true, true_implies, false_implies, implies_true, and_self, zero_ne_one, one_ne_zero, eq_self, reduceIte, s_X11_boards_0, b_X11_boards_0, s_X11_boards_27, b_X11_boards_27, s_X11_boards_33, b_X11_boards_33, s_X11_boards_46, b_X11_boards_46, s_X11_boards_54, b_X11_boards_54, s_X11_boards_61, b_X11_boards_61, s_X11_boards_70, b_X11_boards_70, s_X11_boards_81, b_X11_boards_81, s_X11_boards_88, b_X11_boards_88, s_X11_boards_95, b_X11_boards_95, s_X11_boards_100, b_X11_boards_100, s_X11_boards_112, b_X11_boards_112, s_X11_boards_119, b_X11_boards_119, s_X11_boards_129, b_X11_boards_129, s_X11_boards_137, b_X11_boards_137, s_X11_boards_187, b_X11_boards_187, s_X11_boards_197, b_X11_boards_197, s_X11_boards_223, b_X11_boards_223, s_X11_boards_229, b_X11_boards_229, g_X11_85, p_X11_85, g_X11_224, p_X11_224, g_X11_250, p_X11_250, g_X11_79, p_X11_79, g_X11_269, p_X11_269, g_X11_73, g_X11_239, g_X11_218, p_X11_218, g_X11_125, p_X11_125, g_X11_27, g_X11_58, g_X11_30, g_X11_61, g_X11_33, g_X11_64, g_X11_39, g_X11_70, g_X11_36, g_X11_67, G_X11_boards_254, sp_X11_next_e, G_X11_boards_288, sp_X11_readBoard_e, G_X11_boards_272, sp_X11_isSign_e, G_X11_boards_257, sp_X11_must_e, G_X11_boards_103, sp_X11_answer_e, G_X11_boards_92, sp_X11_staleAll_e, T_104]
    done

