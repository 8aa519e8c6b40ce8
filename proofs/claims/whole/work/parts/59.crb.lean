/-! the class: a board's text -/
/-- the state behind a board, as the class goes -/
theorem c_rdb {T : Int → Int} {L : Int} {nm : Int → Int} {nB : Int} {i : Nat} : (¬ (¬ m_lt T L i = -1 ∧ nm (m_lt T L i) = -1 ∧ nB < 10) → m_rdb T L nm nB i = (1, i)) ∧ ((¬ m_lt T L i = -1 ∧ nm (m_lt T L i) = -1 ∧ nB < 10) → ¬ (m_kd T L (i + 1) = 4 ∧ m_cd T L (i + 1) = 61) → m_rdb T L nm nB i = (1, i + 1)) ∧ ((¬ m_lt T L i = -1 ∧ nm (m_lt T L i) = -1 ∧ nB < 10) → (m_kd T L (i + 1) = 4 ∧ m_cd T L (i + 1) = 61) → m_rdb T L nm nB i = c_mks T L nm (i + 2) ∧ m_kb T L nm nB i = m_kw T L (i + 2) ∧ (¬ m_kw T L (i + 2) = -1 → m_mb T L nm nB i = m_mk T L nm (m_kw T L (i + 2)) (0, i + 3))) := by
  refine ⟨fun h => ?_, fun h g => ?_, fun h g => ?_⟩
  · have e1 : m_h1 T L nm nB i = (1, i) := c_ms_f h
    have e2 : m_hd T L nm nB i = (1, i) := by
      unfold m_hd
      rw [e1]
      unfold m_h3 m_h2 m_ms
      simp
    unfold m_rdb
    rw [e2, if_pos rfl]
  · have e1 : m_h1 T L nm nB i = (0, i + 1) := c_ms_t h
    have e2 : m_h2 T L (0, i + 1) = (1, i + 1) := c_ms_f g
    have e3 : m_hd T L nm nB i = (1, i + 1) := by
      unfold m_hd
      rw [e1, e2]
      unfold m_h3 m_ms
      simp
    unfold m_rdb
    rw [e3, if_pos rfl]
  · have e1 : m_h1 T L nm nB i = (0, i + 1) := c_ms_t h
    have e2 : m_h2 T L (0, i + 1) = (0, i + 1 + 1) := c_ms_t g
    have ekb : m_kb T L nm nB i = m_kw T L (i + 2) := by
      unfold m_kb
      rw [e1, e2]
    by_cases c : m_kw T L (i + 2) = -1
    · have e3 : m_hd T L nm nB i = (1, i + 2) := by
        unfold m_hd
        rw [e1, e2]
        exact c_ms_f (k := i + 2) (fun q => q c)
      refine ⟨?_, ekb, fun q => absurd c q⟩
      unfold m_rdb c_mks
      rw [e3, if_pos rfl, if_pos c]
    · have e3 : m_hd T L nm nB i = (0, i + 3) := by
        unfold m_hd
        rw [e1, e2]
        exact c_ms_t (k := i + 2) c
      have emb : m_mb T L nm nB i = m_mk T L nm (m_kw T L (i + 2)) (0, i + 3) := by
        unfold m_mb
        rw [ekb, e3]
      refine ⟨?_, ekb, fun _ => emb⟩
      unfold m_rdb c_mks
      rw [e3, if_neg (show ¬ (0 : Int) = 1 by decide), if_neg c, emb]
/-- a recipe of the board n -/
def c_rb (T : Int → Int) (L : Int) (nm : Int → Int) (n : Nat) (i : Nat) (r : Int) (ν : QM) : Prop := ν r 2 = m_kb T L nm n i ∧ ν r 4 = (m_mb T L nm n i).2.1 ∧ (m_kb T L nm n i = 10 ∨ m_kb T L nm n i = 11 → ν r 3 = (m_mb T L nm n i).2.2.1) ∧ ν r 1 = m_mn (m_kb T L nm n i) ∧ ∀ k : Nat, (k : Int) < m_mn (m_kb T L nm n i) → ν (r + 10) k = (m_mb T L nm n i).2.2.2 k
def c_bf (μ : QM) (P : Int) (n : Nat) (ν : QM) : Prop := (∀ a j : Int, ¬ (a = 16 ∧ j = 5) → ¬ (n < 10 ∧ (a = P + 3 + n ∨ a = P + 13 + n)) → ¬ (a = P ∧ j = 2) → ¬ a = P + 2 → ν a j = μ a j) ∧ ∀ k : Int, ν (P + 13 + n) k = μ (P + 13 + n) k ∨ (0 ≤ ν (P + 13 + n) k ∧ ν (P + 13 + n) k < 10)
def sp_X3_readBoard : QP := fun ra μ K => match ra with
  | [.inr (.inr this)] => this = 15 ∧ ∃ (P : Int) (nm : Int → Int) (n : Nat) (T : Int → Int) (L : Int) (E i : Nat), c_nm P nm μ ∧ μ P 2 = n ∧ n ≤ 10 ∧ c_at T L E i μ ∧ ∀ ν : QM, c_bf μ P n ν → c_at T L E (m_rdb T L nm n i).2 ν → (¬ (m_rdb T L nm n i).1 = 0 → ν P 2 = n ∧ ∀ j : Int, 0 ≤ j → j < 26 → ν (P + 2) j = nm j) → ((m_rdb T L nm n i).1 = 0 → n < 10 ∧ ν P 2 = n + 1 ∧ (∀ j : Int, 0 ≤ j → j < 26 → ν (P + 2) j = if j = m_lt T L i then (n : Int) else nm j) ∧ c_rb T L nm n i (P + 3 + n) ν) → K (some (.inl (q_b ((m_rdb T L nm n i).1 = 0)))) ν
  | _ => False
theorem sp_X3_readBoard_e (this : Int) (μ : QM) (K : Option QV → QM → Prop) : sp_X3_readBoard [.inr (.inr this)] μ K = (this = 15 ∧ ∃ (P : Int) (nm : Int → Int) (n : Nat) (T : Int → Int) (L : Int) (E i : Nat), c_nm P nm μ ∧ μ P 2 = n ∧ n ≤ 10 ∧ c_at T L E i μ ∧ ∀ ν : QM, c_bf μ P n ν → c_at T L E (m_rdb T L nm n i).2 ν → (¬ (m_rdb T L nm n i).1 = 0 → ν P 2 = n ∧ ∀ j : Int, 0 ≤ j → j < 26 → ν (P + 2) j = nm j) → ((m_rdb T L nm n i).1 = 0 → n < 10 ∧ ν P 2 = n + 1 ∧ (∀ j : Int, 0 ≤ j → j < 26 → ν (P + 2) j = if j = m_lt T L i then (n : Int) else nm j) ∧ c_rb T L nm n i (P + 3 + n) ν) → K (some (.inl (q_b ((m_rdb T L nm n i).1 = 0)))) ν) := propext Iff.rfl
theorem sp_X3_readBoard_i {ra : List QV} {μ : QM} {K : Option QV → QM → Prop} (h : sp_X3_readBoard ra μ K) : ∃ this : Int, ra = [.inr (.inr this)] ∧ (this = 15 ∧ ∃ (P : Int) (nm : Int → Int) (n : Nat) (T : Int → Int) (L : Int) (E i : Nat), c_nm P nm μ ∧ μ P 2 = n ∧ n ≤ 10 ∧ c_at T L E i μ ∧ ∀ ν : QM, c_bf μ P n ν → c_at T L E (m_rdb T L nm n i).2 ν → (¬ (m_rdb T L nm n i).1 = 0 → ν P 2 = n ∧ ∀ j : Int, 0 ≤ j → j < 26 → ν (P + 2) j = nm j) → ((m_rdb T L nm n i).1 = 0 → n < 10 ∧ ν P 2 = n + 1 ∧ (∀ j : Int, 0 ≤ j → j < 26 → ν (P + 2) j = if j = m_lt T L i then (n : Int) else nm j) ∧ c_rb T L nm n i (P + 3 + n) ν) → K (some (.inl (q_b ((m_rdb T L nm n i).1 = 0)))) ν) := by
  unfold sp_X3_readBoard at h
  split at h
  · exact ⟨_, rfl, h⟩
  · exact h.elim
def rm_X3_readBoard : Room := { frames := 4, cells := 0, slots := 0, locals := 89 }
def G_X3_readBoard : Nat → Nat × QP := fun i => match i with
  | 47 => (2, sp_X8_look)
  | 51 => (2, sp_X2_boardNamed)
  | 54 => (1, sp_X2_isFull)
  | 57 => (1, sp_X8_step)
  | 43 => (2, sp_X8_pass)
  | 68 => (2, sp_X3_readMaking)
  | 72 => (2, sp_X2_close)
  | _ => (0, fun _ _ _ => False)
theorem G_X3_readBoard_47 : G_X3_readBoard 47 = (2, sp_X8_look) := id rfl
theorem G_X3_readBoard_51 : G_X3_readBoard 51 = (2, sp_X2_boardNamed) := id rfl
theorem G_X3_readBoard_54 : G_X3_readBoard 54 = (1, sp_X2_isFull) := id rfl
theorem G_X3_readBoard_57 : G_X3_readBoard 57 = (1, sp_X8_step) := id rfl
theorem G_X3_readBoard_43 : G_X3_readBoard 43 = (2, sp_X8_pass) := id rfl
theorem G_X3_readBoard_68 : G_X3_readBoard 68 = (2, sp_X3_readMaking) := id rfl
theorem G_X3_readBoard_72 : G_X3_readBoard 72 = (2, sp_X2_close) := id rfl
set_option maxRecDepth 100000 in
set_option maxHeartbeats 4000000 in
theorem B_X3_readBoard : q_Body cX3_readBoard 2 u_X3_readBoard fl_X3 ld_X3 G_X3_readBoard q_T 1 s_X3_readBoard sp_X3_readBoard := by
  intro S Rt hR ra μ h
  obtain ⟨this, rfl, h⟩ := sp_X3_readBoard_i h
  refine ⟨by simp [q_sl, q_ct], ?_⟩
  show S 0 [some (.inr (.inr this)), none] [] μ
  obtain ⟨rfl, P, nm, n, T, L, E, i, hn, hP2, hn10, hat, hk⟩ := h
  obtain ⟨p1, p2, p3, p4⟩ := id hn
  have hTp := T_plan p1
  have hTr := T_recs p1
  have h0 : 0 ≤ P := by omega
  obtain ⟨r1, r2, r5, r6, r7⟩ := c_at_r hat
  have hb := c_kc_b hat.1 i
  refine hR 80 [] 0 _ _ _ rfl ?_
  simp only [v_opt_n, v_opt_s, v_nil, v_iconst, v_bipush, v_sipush, v_lconst0, v_lconst1, v_ldc, v_ldcw, v_ldc2, v_iload0, v_iload1, v_iload2, v_iload3, v_iload, v_lload0, v_lload1, v_lload2, v_lload3, v_lload, v_aload0, v_aload1, v_aload2, v_aload3, v_aload, v_istore0, v_istore1, v_istore2, v_istore3, v_istore, v_lstore0, v_lstore1, v_lstore2, v_lstore3, v_lstore, v_astore0, v_astore1, v_astore2, v_astore3, v_astore, v_iinc, v_iadd, v_isub, v_imul, v_iand, v_ior, v_ixor, v_ishl, v_ishr, v_iushr, v_ineg, v_idiv, v_irem, v_ladd, v_lsub, v_lmul, v_lcmp, v_i2l, v_l2i, v_i2c, v_dup, v_dup2, v_if_eq, v_if_ne, v_if_lt, v_if_ge, v_if_gt, v_if_le, v_ic_eq, v_ic_ne, v_ic_lt, v_ic_ge, v_ic_gt, v_ic_le, v_goto, v_tsw, v_lsw, v_ireturn, v_areturn, v_return, v_iaload, v_laload, v_baload, v_caload, v_aaload, v_iastore, v_lastore, v_bastore, v_castore, v_alen, v_invvi, v_invst, v_invsp, e_int, e_lng, e_ref, e_lg0, e_lg1, e_lg2, e_lg3, e_lg4, e_lg5, e_lg6, e_lg7, e_lg8, e_lg9, e_lg10, e_lg11, e_lg12, e_lg13, e_clrI, e_clrJ, e_clrP, e_clrN, e_s0, e_s1, e_s2, e_s3, e_s4, e_s5, e_s6, e_s7, e_s8, e_s9, e_s10, e_s11, e_s12, e_s13, e_t0, e_t1, e_t2, e_t3, e_t4, e_t5, e_t6, e_t7, e_t8, e_t9, e_t10, e_t11, e_t12, e_t13, e_fd, e_kk, e_k0, e_k1, e_k2, e_k3, e_k4, e_k5, e_k6, e_k7, e_k8, e_k9, e_sv0, e_sv1, e_sv2, e_sv3, e_svc, e_pf0, e_pf1, e_pf2, e_pf3, e_ar, e_aa, e_al, e_sw1, e_sw2, e_ct0, e_ct1, e_ct2, e_cat0, e_cat1, e_rk0, e_rk1, e_rk2, e_inv0, e_inv1, e_inv2, e_inv3, e_inv4, e_inv5, e_inv6, e_o0, e_o1, e_cl, e_cle, e_cg, e_cge, e_ce, e_cr1, e_cr2, e_r, e_R, e_up, Int.cast_ofNat_Int, u_app, false_and, and_false, e_b0, e_b1, e_bn, e_bl, e_bu, Int.reduceLE, Int.reduceLT, Int.reduceEq, Int.reduceNeg, Int.reduceAdd, Int.reduceSub, Int.reduceMul, Nat.reduceLeDiff, Nat.reduceLT, Nat.reduceAdd, Nat.reduceEqDiff, true_and, and_true, true_or, or_true, false_or, or_false, forall_const, not_true_eq_false, not_false_eq_true, true_implies, false_implies, implies_true, and_self, zero_ne_one, one_ne_zero, eq_self, reduceIte, v_getf, v_putf, s_X3_readBoard_0, b_X3_readBoard_0, s_X3_readBoard_14, b_X3_readBoard_14, s_X3_readBoard_26, b_X3_readBoard_26, s_X3_readBoard_36, b_X3_readBoard_36, s_X3_readBoard_38, b_X3_readBoard_38, s_X3_readBoard_57, b_X3_readBoard_57, s_X3_readBoard_79, b_X3_readBoard_79, s_X3_readBoard_81, b_X3_readBoard_81, fl_X3_14, T_15, fl_X3_20, fl_X3_60, fl_X3_64, G_X3_readBoard_47, sp_X8_look_e, G_X3_readBoard_51, sp_X2_boardNamed_e, G_X3_readBoard_54, sp_X2_isFull_e, G_X3_readBoard_57, sp_X8_step_e, G_X3_readBoard_43, sp_X8_pass_e, G_X3_readBoard_68, sp_X3_readMaking_e, G_X3_readBoard_72, sp_X2_close_e, p2, hTp, hTr, hP2]
  refine ⟨T, L, E, i, hat, ?_⟩
  obtain ⟨d1, d2, d3⟩ := c_rdb (T := T) (L := L) (nm := nm) (nB := n) (i := i)
  have id0 : c_bf μ P n μ := ⟨fun _ _ _ _ _ _ => rfl, fun _ => Or.inl rfl⟩
  have bad : ¬ (¬ m_lt T L i = -1 ∧ nm (m_lt T L i) = -1 ∧ (n : Int) < 10) → Rt (some (.inl 0)) μ := fun c => by
    rw [d1 c, q_bf c_z1] at hk
    exact hk μ id0 hat (fun _ => ⟨hP2, p3⟩) (fun q => absurd q c_z1)
  by_cases ck : m_kd T L i = 1
  · have elt : m_lt T L i = m_cd T L i := if_pos ck
    have hcd : 0 ≤ m_cd T L i ∧ m_cd T L i < 26 := ⟨hb.2.1.1, hb.2.2.1 ck⟩
    have hE := r5 (by rw [ck]; decide)
    have hv := p4 (m_cd T L i)
    have hr : n < 10 → q_rc (P + 3 + n) := fun q => by omega
    rw [if_pos ck, if_pos hcd, p3 _ hcd.1 hcd.2]
    refine ⟨by omega, fun c => by omega, fun c => ⟨p1, by omega, by omega, fun c1 => bad (fun q => c1 (by rw [← elt]; exact q.2.1)), fun c1 => ⟨p1, by omega, fun c2 => ⟨T, L, E, i, hat, hE, T, L, E, i + 1, c_at_st hE hat, fun c3 => ⟨by omega, by omega, by omega, hr (by omega), P, nm, T, L, E, i + 2, ?_⟩, fun c3 => ?_⟩, fun c2 => bad (by omega)⟩⟩⟩
    · have hok : ¬ m_lt T L i = -1 ∧ nm (m_lt T L i) = -1 ∧ (n : Int) < 10 := by
        rw [elt]
        exact ⟨c, c1, by omega⟩
      obtain ⟨g1, g2, g3⟩ := d3 hok c3
      have hat1 := c_at_st hE hat
      obtain ⟨-, -, s5, -, -⟩ := c_at_r hat1
      have hE1 : i + 1 < E := s5 (by rw [c3.1]; decide)
      have hat2 : c_at T L E (i + 2) (q_up (q_up μ 16 5 ((i : Int) + 1)) 16 5 (((i + 1 : Nat) : Int) + 1)) := c_at_st hE1 hat1
      have hn2 : c_nm P nm (q_up (q_up μ 16 5 ((i : Int) + 1)) 16 5 (((i + 1 : Nat) : Int) + 1)) := by
        refine ⟨p1, ?_, fun j j0 j1 => ?_, p4⟩
        · rw [u_app, if_neg (by omega), u_app, if_neg (by omega)]
          exact p2
        · rw [u_app, if_neg (by omega), u_app, if_neg (by omega)]
          exact p3 j j0 j1
      rw [g1] at hk
      refine ⟨hn2, hat2, fun ν f q1 q2 => ?_⟩
      have ef : ∀ a j : Int, ¬ (a = 16 ∧ j = 5) → ¬ a = P + 3 + n → ¬ a = P + 13 + n → ν a j = μ a j := fun a j n1 n2 n3 => by
        rw [f.1 a j n1 n2 (by omega), u_app, if_neg n1, u_app, if_neg n1]
      have e15 : ν 15 1 = P := (ef 15 1 (by omega) (by omega) (by omega)).trans p2
      have eP2 : ν P 2 = n := (ef P 2 (by omega) (by omega) (by omega)).trans hP2
      have fr : ∀ k : Int, ν (P + 13 + n) k = μ (P + 13 + n) k ∨ (0 ≤ ν (P + 13 + n) k ∧ ν (P + 13 + n) k < 10) := fun k => by
        have := f.2 k
        rw [show P + 3 + (n : Int) + 10 = P + 13 + n by omega, u_app, if_neg (by omega), u_app, if_neg (by omega)] at this
        exact this
      rw [e15, eP2]
      refine ⟨fun c4 => ⟨p1, hcd, by omega, ?_⟩, fun c4 => ?_⟩
      · have c4 := Classical.not_not.mp c4
        rw [q_bt c4] at hk
        have hkw : ¬ m_kw T L (i + 2) = -1 := fun q => by
          unfold c_mks at c4
          rw [if_pos q] at c4
          exact absurd c4 c_z1
        have emb := g3 hkw
        obtain ⟨k1, k2, k3, k4, k5⟩ := q2 c4
        refine hk _ ⟨fun a j n1 n2 n3 n4 => ?_, fun k => ?_⟩ (c_at_s q1 q1.2.2.1 (fun a j q => ?_) ?_) (fun q => absurd c4 q) (fun _ => ⟨by omega, ?_, fun j j0 j1 => ?_, ?_, ?_, fun q => ?_, ?_, fun k hk => ?_⟩)
        · rw [u_app, if_neg n3, u_app, if_neg (fun q => n4 q.1)]
          exact ef a j n1 (by omega) (by omega)
        · rw [u_app, if_neg (by omega), u_app, if_neg (by omega)]
          exact fr k
        · rw [u_app, if_neg (by omega), u_app, if_neg (by omega)]
        · rw [u_app, if_neg (by omega), u_app, if_neg (by omega)]
          exact q1.2.2.2
        · rw [u_app, if_pos ⟨rfl, rfl⟩]
        · rw [u_app, if_neg (by omega), u_app, elt]
          by_cases c5 : j = m_cd T L i
          · rw [if_pos ⟨rfl, c5⟩, if_pos c5]
          · rw [if_neg (fun q => c5 q.2), if_neg c5, ef _ _ (by omega) (by omega) (by omega)]
            exact p3 j j0 j1
        · rw [u_app, if_neg (by omega), u_app, if_neg (by omega), g2]
          exact k1
        · rw [u_app, if_neg (by omega), u_app, if_neg (by omega), emb]
          exact k2
        · rw [u_app, if_neg (by omega), u_app, if_neg (by omega), emb]
          rw [g2] at q
          exact k3 q
        · rw [u_app, if_neg (by omega), u_app, if_neg (by omega), g2]
          exact k4
        · rw [u_app, if_neg (by omega), u_app, if_neg (by omega), emb]
          rw [g2] at hk
          exact k5 k hk
      · rw [q_bf c4] at hk
        exact hk ν ⟨fun a j n1 n2 n3 n4 => ef a j n1 (by omega) (by omega), fr⟩ q1 (fun _ => ⟨eP2, fun j j0 j1 => (ef _ _ (by omega) (by omega) (by omega)).trans (p3 j j0 j1)⟩) (fun q => absurd q c4)
    · have hok : ¬ m_lt T L i = -1 ∧ nm (m_lt T L i) = -1 ∧ (n : Int) < 10 := by
        rw [elt]
        exact ⟨c, c1, by omega⟩
      rw [d2 hok c3, q_bf c_z1] at hk
      refine hk _ ⟨fun a j n1 n2 n3 n4 => ?_, fun k => ?_⟩ (c_at_st hE hat) (fun _ => ⟨?_, fun j j0 j1 => ?_⟩) (fun q => absurd q c_z1)
      · rw [u_app, if_neg n1]
      · rw [u_app, if_neg (by omega)]
        exact Or.inl rfl
      · rw [u_app, if_neg (by omega)]
        exact hP2
      · rw [u_app, if_neg (by omega)]
        exact p3 j j0 j1
  · rw [if_neg ck]
    have elt : m_lt T L i = -1 := if_neg ck
    exact ⟨by omega, fun _ => bad (fun q => q.1 elt), fun c => absurd rfl c⟩
set_option maxRecDepth 100000 in
theorem C_X3_readBoard {l : Launch} {ad : Int → Nat} {D : va_G} {cy : Nat → ClassId} {Z : State → Prop} (hZ : q_Zg ad Z) : q_Ct l q_T q_N ad D cy Z yX3_readBoard cX3_readBoard 2 (some .boolean) rm_X3_readBoard sp_X3_readBoard := by
  obtain ⟨hf, hg, hld⟩ := q_chkS k_X3_readBoard
  refine q_met (rk := 1) q_wokT (by decide) rfl hf hg hld rfl (q_skS L_X3_readBoard o_X3_readBoard) ?_ ?_ ?_ ?_ B_X3_readBoard
  · intro i hi; exact absurd hi List.not_mem_nil
  · intro i hi
    have hi : i = 47 ∨ i = 51 ∨ i = 54 ∨ i = 57 ∨ i = 43 ∨ i = 68 ∨ i = 72 := by simpa [u_X3_readBoard] using hi
    rcases hi with rfl | rfl | rfl | rfl | rfl | rfl | rfl
    · exact q_crV hZ.1 (C_X8_look hZ) rv_X8_look cm_X8_look (by decide +kernel) (by decide +kernel) (by decide +kernel) (by decide +kernel) (by decide +kernel) ⟨rfl, rfl⟩ (by decide)
    · exact q_crV hZ.1 (C_X2_boardNamed hZ) rv_X2_boardNamed cm_X2_boardNamed (by decide +kernel) (by decide +kernel) (by decide +kernel) (by decide +kernel) (by decide +kernel) ⟨rfl, rfl⟩ (by decide)
    · exact q_crV hZ.1 (C_X2_isFull hZ) rv_X2_isFull cm_X2_isFull (by decide +kernel) (by decide +kernel) (by decide +kernel) (by decide +kernel) (by decide +kernel) ⟨rfl, rfl⟩ (by decide)
    · exact q_crV hZ.1 (C_X8_step hZ) rv_X8_step cm_X8_step (by decide +kernel) (by decide +kernel) (by decide +kernel) (by decide +kernel) (by decide +kernel) ⟨rfl, rfl⟩ (by decide)
    · exact q_crV hZ.1 (C_X8_pass hZ) rv_X8_pass cm_X8_pass (by decide +kernel) (by decide +kernel) (by decide +kernel) (by decide +kernel) (by decide +kernel) ⟨rfl, rfl⟩ (by decide)
    · exact q_crV hZ.1 (C_X3_readMaking hZ) rv_X3_readMaking cm_X3_readMaking (by decide +kernel) (by decide +kernel) (by decide +kernel) (by decide +kernel) (by decide +kernel) ⟨rfl, rfl⟩ (by decide)
    · exact q_crV hZ.1 (C_X2_close hZ) rv_X2_close cm_X2_close (by decide +kernel) (by decide +kernel) (by decide +kernel) (by decide +kernel) (by decide +kernel) ⟨rfl, rfl⟩ (by decide)
  · intro i hi; exact absurd hi List.not_mem_nil
  · intro i hi; exact absurd hi List.not_mem_nil
theorem rv_X3_readBoard : q_rcv q_T yX3_readBoard.cls sp_X3_readBoard := by
  intro ra μ K h
  obtain ⟨this, rfl, h⟩ := sp_X3_readBoard_i h
  obtain rfl := h.1
  exact ⟨[], 15, 3, _, _, rfl, T_15, rfl, rfl⟩
theorem cm_X3_readBoard : Cond.code yX3_readBoard cX3_readBoard 2 (some .boolean) ∈ q_tb := by decide +kernel

