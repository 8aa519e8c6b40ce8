/-! the class: reading -/
theorem c_kc_b {T : Int → Int} {L : Int} (ht : m_tp T L) (i : Nat) : (0 ≤ m_kd T L i ∧ m_kd T L i ≤ 5) ∧ (0 ≤ m_cd T L i ∧ m_cd T L i ≤ 1000001) ∧ (m_kd T L i = 1 → m_cd T L i < 26) ∧ (m_kd T L i = 2 → m_cd T L i < 15) := by
  obtain ⟨b1, b2⟩ := m_tk_b ht i
  obtain ⟨x1, x2, x3, x4, x5, x6⟩ := m_tk_k T L i
  have hw := m_wx_b (m_wo T L i)
  rcases b2 with q | q | q | q
  · obtain ⟨y1, y2⟩ := x1 q.1
    rw [y1, y2]
    decide
  · by_cases c2 : m_pos T L (i + 1) - m_pl T L i = 1
    · obtain ⟨y1, y2⟩ := x2 q.1 c2
      have := q.2.2.1
      rw [y1, y2]
      clear x1 x2 x3 x4 x5 x6 b1 q
      omega
    · by_cases c3 : m_wx (m_wo T L i) = -1
      · obtain ⟨y1, y2⟩ := x3 q.1 c2 c3
        rw [y1, y2]
        decide
      · obtain ⟨y1, y2⟩ := x4 q.1 c2 c3
        rw [y1, y2]
        clear x1 x2 x3 x4 x5 x6 b1 q
        omega
  · obtain ⟨y1, y2, y3⟩ := x5 q.1
    rw [y1]
    have := q.2.2.2.2
    clear x1 x2 x3 x4 x5 x6 b1 q
    by_cases c : 1000000 < m_wo T L i
    · rw [y2 c]
      decide
    · rw [y3 (Int.not_lt.mp c)]
      omega
  · obtain ⟨y1, y2⟩ := x6 q.1
    have := q.2.2.2.2.2.2
    rw [y1, y2]
    clear x1 x2 x3 x4 x5 x6 b1 q
    omega
/-- the reader stands at token i -/
def c_at (T : Int → Int) (L : Int) (E i : Nat) (μ : QM) : Prop := m_tp T L ∧ c_tok T L E μ ∧ i ≤ E ∧ μ 16 5 = i
theorem c_at_r {T : Int → Int} {L : Int} {E i : Nat} {μ : QM} (h : c_at T L E i μ) : (0 ≤ μ 16 5 ∧ μ 16 5 < 301) ∧ (μ 17 (μ 16 5) = m_kd T L i ∧ μ 18 (μ 16 5) = m_cd T L i ∧ μ 19 (μ 16 5) = m_pl T L i) ∧ (¬ m_kd T L i = 0 → i < E) ∧ μ 16 4 = E + 1 ∧ (E : Int) ≤ 300 := by
  obtain ⟨ht, ⟨k1, k2, k3, k4, k5⟩, hi, e5⟩ := h
  have hL := ht.1
  refine ⟨by omega, by rw [e5]; exact k3 i hi, fun c => ?_, k2, by omega⟩
  by_cases c2 : i = E
  · rw [c2] at c
    exact absurd k4 c
  · omega
theorem c_at_s {T : Int → Int} {L : Int} {E i k : Nat} {μ ν : QM} (h : c_at T L E i μ) (hk : k ≤ E) (hf : ∀ a j : Int, a = 17 ∨ a = 18 ∨ a = 19 ∨ (a = 16 ∧ j = 4) → ν a j = μ a j) (h5 : ν 16 5 = k) : c_at T L E k ν := by
  obtain ⟨ht, ⟨k1, k2, k3, k4, k5⟩, hi, e5⟩ := h
  refine ⟨ht, ⟨k1, ?_, fun j hj => ?_, k4, k5⟩, hk, h5⟩
  · rw [hf 16 4 (by omega)]
    exact k2
  · rw [hf 17 j (by omega), hf 18 j (by omega), hf 19 j (by omega)]
    exact k3 j hj
def sp_X8_look : QP := fun ra μ K => match ra with
  | [.inl kind, .inr (.inr this)] => this = 16 ∧ q_r kind ∧ ∃ (T : Int → Int) (L : Int) (E i : Nat), c_at T L E i μ ∧ K (some (.inl (if m_kd T L i = kind then m_cd T L i else -1))) μ
  | _ => False
theorem sp_X8_look_e (this kind : Int) (μ : QM) (K : Option QV → QM → Prop) : sp_X8_look [.inl kind, .inr (.inr this)] μ K = (this = 16 ∧ q_r kind ∧ ∃ (T : Int → Int) (L : Int) (E i : Nat), c_at T L E i μ ∧ K (some (.inl (if m_kd T L i = kind then m_cd T L i else -1))) μ) := propext Iff.rfl
theorem sp_X8_look_i {ra : List QV} {μ : QM} {K : Option QV → QM → Prop} (h : sp_X8_look ra μ K) : ∃ this kind : Int, ra = [.inl kind, .inr (.inr this)] ∧ (this = 16 ∧ q_r kind ∧ ∃ (T : Int → Int) (L : Int) (E i : Nat), c_at T L E i μ ∧ K (some (.inl (if m_kd T L i = kind then m_cd T L i else -1))) μ) := by
  unfold sp_X8_look at h
  split at h
  · exact ⟨_, _, rfl, h⟩
  · exact h.elim
def rm_X8_look : Room := { frames := 0, cells := 0, slots := 0, locals := 0 }
def G_X8_look : Nat → Nat × QP := fun i => match i with
  | _ => (0, fun _ _ _ => False)
set_option maxRecDepth 100000 in
set_option maxHeartbeats 4000000 in
theorem B_X8_look : q_Body cX8_look 2 u_X8_look fl_X8 ld_X8 G_X8_look q_T 0 s_X8_look sp_X8_look := by
  intro S Rt hR ra μ h
  obtain ⟨this, kind, rfl, h⟩ := sp_X8_look_i h
  refine ⟨by simp [q_sl, q_ct], ?_⟩
  show S 0 [some (.inr (.inr this)), some (.inl kind)] [] μ
  obtain ⟨rfl, h1, T, L, E, i, hat, hk⟩ := h
  obtain ⟨r1, ⟨r2, r3, r4⟩, r5, r6, r7⟩ := c_at_r hat
  have hb := (c_kc_b hat.1 i).1
  refine hR 40 [] 0 _ _ _ rfl ?_
  simp only [v_opt_n, v_opt_s, v_nil, v_iconst, v_bipush, v_sipush, v_lconst0, v_lconst1, v_ldc, v_ldcw, v_ldc2, v_iload0, v_iload1, v_iload2, v_iload3, v_iload, v_lload0, v_lload1, v_lload2, v_lload3, v_lload, v_aload0, v_aload1, v_aload2, v_aload3, v_aload, v_istore0, v_istore1, v_istore2, v_istore3, v_istore, v_lstore0, v_lstore1, v_lstore2, v_lstore3, v_lstore, v_astore0, v_astore1, v_astore2, v_astore3, v_astore, v_iinc, v_iadd, v_isub, v_imul, v_iand, v_ior, v_ixor, v_ishl, v_ishr, v_iushr, v_ineg, v_idiv, v_irem, v_ladd, v_lsub, v_lmul, v_lcmp, v_i2l, v_l2i, v_i2c, v_dup, v_dup2, v_if_eq, v_if_ne, v_if_lt, v_if_ge, v_if_gt, v_if_le, v_ic_eq, v_ic_ne, v_ic_lt, v_ic_ge, v_ic_gt, v_ic_le, v_goto, v_tsw, v_lsw, v_ireturn, v_areturn, v_return, v_iaload, v_laload, v_baload, v_caload, v_aaload, v_iastore, v_lastore, v_bastore, v_castore, v_alen, v_invvi, v_invst, v_invsp, e_int, e_lng, e_ref, e_lg0, e_lg1, e_lg2, e_lg3, e_lg4, e_lg5, e_lg6, e_lg7, e_lg8, e_lg9, e_lg10, e_lg11, e_lg12, e_lg13, e_clrI, e_clrJ, e_clrP, e_clrN, e_s0, e_s1, e_s2, e_s3, e_s4, e_s5, e_s6, e_s7, e_s8, e_s9, e_s10, e_s11, e_s12, e_s13, e_t0, e_t1, e_t2, e_t3, e_t4, e_t5, e_t6, e_t7, e_t8, e_t9, e_t10, e_t11, e_t12, e_t13, e_fd, e_kk, e_k0, e_k1, e_k2, e_k3, e_k4, e_k5, e_k6, e_k7, e_k8, e_k9, e_sv0, e_sv1, e_sv2, e_sv3, e_svc, e_pf0, e_pf1, e_pf2, e_pf3, e_ar, e_aa, e_al, e_sw1, e_sw2, e_ct0, e_ct1, e_ct2, e_cat0, e_cat1, e_rk0, e_rk1, e_rk2, e_inv0, e_inv1, e_inv2, e_inv3, e_inv4, e_inv5, e_inv6, e_o0, e_o1, e_cl, e_cle, e_cg, e_cge, e_ce, e_cr1, e_cr2, e_r, e_R, e_up, Int.cast_ofNat_Int, u_app, false_and, and_false, e_b0, e_b1, e_bn, e_bl, e_bu, Int.reduceLE, Int.reduceLT, Int.reduceEq, Int.reduceNeg, Int.reduceAdd, Int.reduceSub, Int.reduceMul, Nat.reduceLeDiff, Nat.reduceLT, Nat.reduceAdd, Nat.reduceEqDiff, true_and, and_true, true_or, or_true, false_or, or_false, forall_const, not_true_eq_false, not_false_eq_true, true_implies, false_implies, implies_true, and_self, zero_ne_one, one_ne_zero, eq_self, reduceIte, s_X8_look_0, b_X8_look_0, s_X8_look_13, b_X8_look_13, s_X8_look_25, b_X8_look_25, s_X8_look_26, b_X8_look_26, g_X8_9, g_X8_25, g_X8_15, T_17, T_18, r2, r3]
  refine ⟨by omega, by omega, by omega, fun c => ?_, fun c => ⟨by omega, by omega, ?_⟩⟩
  · rw [if_neg c] at hk
    exact hk
  · rw [if_pos c] at hk
    exact hk
set_option maxRecDepth 100000 in
theorem C_X8_look {l : Launch} {ad : Int → Nat} {D : va_G} {cy : Nat → ClassId} {Z : State → Prop} (hZ : q_Zg ad Z) : q_Ct l q_T q_N ad D cy Z yX8_look cX8_look 2 (some .int) rm_X8_look sp_X8_look := by
  obtain ⟨hf, hg, hld⟩ := q_chkS k_X8_look
  refine q_met (rk := 0) q_wokT (by decide) rfl hf hg hld rfl (q_skS L_X8_look o_X8_look) ?_ ?_ ?_ ?_ B_X8_look
  · intro i hi; exact absurd hi List.not_mem_nil
  · intro i hi; exact absurd hi List.not_mem_nil
  · intro i hi; exact absurd hi List.not_mem_nil
  · intro i hi; exact absurd hi List.not_mem_nil
theorem rv_X8_look : q_rcv q_T yX8_look.cls sp_X8_look := by
  intro ra μ K h
  obtain ⟨this, kind, rfl, h⟩ := sp_X8_look_i h
  obtain rfl := h.1
  exact ⟨[.inl kind], 16, 8, _, _, rfl, T_16, rfl, rfl⟩
theorem cm_X8_look : Cond.code yX8_look cX8_look 2 (some .int) ∈ q_tb := by decide +kernel
def sp_X8_step : QP := fun ra μ K => match ra with
  | [.inr (.inr this)] => this = 16 ∧ ∃ (T : Int → Int) (L : Int) (E i : Nat), c_at T L E i μ ∧ i < E ∧ K none (q_up μ 16 5 ((i : Int) + 1))
  | _ => False
theorem sp_X8_step_e (this : Int) (μ : QM) (K : Option QV → QM → Prop) : sp_X8_step [.inr (.inr this)] μ K = (this = 16 ∧ ∃ (T : Int → Int) (L : Int) (E i : Nat), c_at T L E i μ ∧ i < E ∧ K none (q_up μ 16 5 ((i : Int) + 1))) := propext Iff.rfl
theorem sp_X8_step_i {ra : List QV} {μ : QM} {K : Option QV → QM → Prop} (h : sp_X8_step ra μ K) : ∃ this : Int, ra = [.inr (.inr this)] ∧ (this = 16 ∧ ∃ (T : Int → Int) (L : Int) (E i : Nat), c_at T L E i μ ∧ i < E ∧ K none (q_up μ 16 5 ((i : Int) + 1))) := by
  unfold sp_X8_step at h
  split at h
  · exact ⟨_, rfl, h⟩
  · exact h.elim
def rm_X8_step : Room := { frames := 0, cells := 0, slots := 0, locals := 0 }
def G_X8_step : Nat → Nat × QP := fun i => match i with
  | _ => (0, fun _ _ _ => False)
set_option maxRecDepth 100000 in
set_option maxHeartbeats 4000000 in
theorem B_X8_step : q_Body cX8_step 1 u_X8_step fl_X8 ld_X8 G_X8_step q_T 4 s_X8_step sp_X8_step := by
  intro S Rt hR ra μ h
  obtain ⟨this, rfl, h⟩ := sp_X8_step_i h
  refine ⟨by simp [q_sl, q_ct], ?_⟩
  show S 0 [some (.inr (.inr this))] [] μ
  obtain ⟨rfl, T, L, E, i, hat, hi, hk⟩ := h
  obtain ⟨r1, ⟨r2, r3, r4⟩, r5, r6, r7⟩ := c_at_r hat
  have e5 := hat.2.2.2
  refine hR 40 [] 0 _ _ _ rfl ?_
  simp only [v_opt_n, v_opt_s, v_nil, v_iconst, v_bipush, v_sipush, v_lconst0, v_lconst1, v_ldc, v_ldcw, v_ldc2, v_iload0, v_iload1, v_iload2, v_iload3, v_iload, v_lload0, v_lload1, v_lload2, v_lload3, v_lload, v_aload0, v_aload1, v_aload2, v_aload3, v_aload, v_istore0, v_istore1, v_istore2, v_istore3, v_istore, v_lstore0, v_lstore1, v_lstore2, v_lstore3, v_lstore, v_astore0, v_astore1, v_astore2, v_astore3, v_astore, v_iinc, v_iadd, v_isub, v_imul, v_iand, v_ior, v_ixor, v_ishl, v_ishr, v_iushr, v_ineg, v_idiv, v_irem, v_ladd, v_lsub, v_lmul, v_lcmp, v_i2l, v_l2i, v_i2c, v_dup, v_dup2, v_if_eq, v_if_ne, v_if_lt, v_if_ge, v_if_gt, v_if_le, v_ic_eq, v_ic_ne, v_ic_lt, v_ic_ge, v_ic_gt, v_ic_le, v_goto, v_tsw, v_lsw, v_ireturn, v_areturn, v_return, v_iaload, v_laload, v_baload, v_caload, v_aaload, v_iastore, v_lastore, v_bastore, v_castore, v_alen, v_invvi, v_invst, v_invsp, e_int, e_lng, e_ref, e_lg0, e_lg1, e_lg2, e_lg3, e_lg4, e_lg5, e_lg6, e_lg7, e_lg8, e_lg9, e_lg10, e_lg11, e_lg12, e_lg13, e_clrI, e_clrJ, e_clrP, e_clrN, e_s0, e_s1, e_s2, e_s3, e_s4, e_s5, e_s6, e_s7, e_s8, e_s9, e_s10, e_s11, e_s12, e_s13, e_t0, e_t1, e_t2, e_t3, e_t4, e_t5, e_t6, e_t7, e_t8, e_t9, e_t10, e_t11, e_t12, e_t13, e_fd, e_kk, e_k0, e_k1, e_k2, e_k3, e_k4, e_k5, e_k6, e_k7, e_k8, e_k9, e_sv0, e_sv1, e_sv2, e_sv3, e_svc, e_pf0, e_pf1, e_pf2, e_pf3, e_ar, e_aa, e_al, e_sw1, e_sw2, e_ct0, e_ct1, e_ct2, e_cat0, e_cat1, e_rk0, e_rk1, e_rk2, e_inv0, e_inv1, e_inv2, e_inv3, e_inv4, e_inv5, e_inv6, e_o0, e_o1, e_cl, e_cle, e_cg, e_cge, e_ce, e_cr1, e_cr2, e_r, e_R, e_up, Int.cast_ofNat_Int, u_app, false_and, and_false, e_b0, e_b1, e_bn, e_bl, e_bu, Int.reduceLE, Int.reduceLT, Int.reduceEq, Int.reduceNeg, Int.reduceAdd, Int.reduceSub, Int.reduceMul, Nat.reduceLeDiff, Nat.reduceLT, Nat.reduceAdd, Nat.reduceEqDiff, true_and, and_true, true_or, or_true, false_or, or_false, forall_const, not_true_eq_false, not_false_eq_true, true_implies, false_implies, implies_true, and_self, zero_ne_one, one_ne_zero, eq_self, reduceIte, s_X8_step_0, b_X8_step_0, s_X8_step_13, b_X8_step_13, s_X8_step_23, b_X8_step_23, g_X8_25, p_X8_25, g_X8_29, e5, r6]
  exact ⟨by omega, fun c => by omega, fun c => hk⟩
set_option maxRecDepth 100000 in
theorem C_X8_step {l : Launch} {ad : Int → Nat} {D : va_G} {cy : Nat → ClassId} {Z : State → Prop} (hZ : q_Zg ad Z) : q_Ct l q_T q_N ad D cy Z yX8_step cX8_step 1 none rm_X8_step sp_X8_step := by
  obtain ⟨hf, hg, hld⟩ := q_chkS k_X8_step
  refine q_met (rk := 4) q_wokT (by decide) rfl hf hg hld rfl (q_skS L_X8_step o_X8_step) ?_ ?_ ?_ ?_ B_X8_step
  · intro i hi; exact absurd hi List.not_mem_nil
  · intro i hi; exact absurd hi List.not_mem_nil
  · intro i hi; exact absurd hi List.not_mem_nil
  · intro i hi; exact absurd hi List.not_mem_nil
theorem rv_X8_step : q_rcv q_T yX8_step.cls sp_X8_step := by
  intro ra μ K h
  obtain ⟨this, rfl, h⟩ := sp_X8_step_i h
  obtain rfl := h.1
  exact ⟨[], 16, 8, _, _, rfl, T_16, rfl, rfl⟩
theorem cm_X8_step : Cond.code yX8_step cX8_step 1 none ∈ q_tb := by decide +kernel
def sp_X8_place : QP := fun ra μ K => match ra with
  | [.inr (.inr this)] => this = 16 ∧ ∃ (T : Int → Int) (L : Int) (E i : Nat), c_at T L E i μ ∧ K (some (.inl (m_pl T L i))) μ
  | _ => False
theorem sp_X8_place_e (this : Int) (μ : QM) (K : Option QV → QM → Prop) : sp_X8_place [.inr (.inr this)] μ K = (this = 16 ∧ ∃ (T : Int → Int) (L : Int) (E i : Nat), c_at T L E i μ ∧ K (some (.inl (m_pl T L i))) μ) := propext Iff.rfl
theorem sp_X8_place_i {ra : List QV} {μ : QM} {K : Option QV → QM → Prop} (h : sp_X8_place ra μ K) : ∃ this : Int, ra = [.inr (.inr this)] ∧ (this = 16 ∧ ∃ (T : Int → Int) (L : Int) (E i : Nat), c_at T L E i μ ∧ K (some (.inl (m_pl T L i))) μ) := by
  unfold sp_X8_place at h
  split at h
  · exact ⟨_, rfl, h⟩
  · exact h.elim
def rm_X8_place : Room := { frames := 0, cells := 0, slots := 0, locals := 0 }
def G_X8_place : Nat → Nat × QP := fun i => match i with
  | _ => (0, fun _ _ _ => False)
set_option maxRecDepth 100000 in
set_option maxHeartbeats 4000000 in
theorem B_X8_place : q_Body cX8_place 1 u_X8_place fl_X8 ld_X8 G_X8_place q_T 0 s_X8_place sp_X8_place := by
  intro S Rt hR ra μ h
  obtain ⟨this, rfl, h⟩ := sp_X8_place_i h
  refine ⟨by simp [q_sl, q_ct], ?_⟩
  show S 0 [some (.inr (.inr this))] [] μ
  obtain ⟨rfl, T, L, E, i, hat, hk⟩ := h
  obtain ⟨r1, ⟨r2, r3, r4⟩, r5, r6, r7⟩ := c_at_r hat
  refine hR 40 [] 0 _ _ _ rfl ?_
  simp only [v_opt_n, v_opt_s, v_nil, v_iconst, v_bipush, v_sipush, v_lconst0, v_lconst1, v_ldc, v_ldcw, v_ldc2, v_iload0, v_iload1, v_iload2, v_iload3, v_iload, v_lload0, v_lload1, v_lload2, v_lload3, v_lload, v_aload0, v_aload1, v_aload2, v_aload3, v_aload, v_istore0, v_istore1, v_istore2, v_istore3, v_istore, v_lstore0, v_lstore1, v_lstore2, v_lstore3, v_lstore, v_astore0, v_astore1, v_astore2, v_astore3, v_astore, v_iinc, v_iadd, v_isub, v_imul, v_iand, v_ior, v_ixor, v_ishl, v_ishr, v_iushr, v_ineg, v_idiv, v_irem, v_ladd, v_lsub, v_lmul, v_lcmp, v_i2l, v_l2i, v_i2c, v_dup, v_dup2, v_if_eq, v_if_ne, v_if_lt, v_if_ge, v_if_gt, v_if_le, v_ic_eq, v_ic_ne, v_ic_lt, v_ic_ge, v_ic_gt, v_ic_le, v_goto, v_tsw, v_lsw, v_ireturn, v_areturn, v_return, v_iaload, v_laload, v_baload, v_caload, v_aaload, v_iastore, v_lastore, v_bastore, v_castore, v_alen, v_invvi, v_invst, v_invsp, e_int, e_lng, e_ref, e_lg0, e_lg1, e_lg2, e_lg3, e_lg4, e_lg5, e_lg6, e_lg7, e_lg8, e_lg9, e_lg10, e_lg11, e_lg12, e_lg13, e_clrI, e_clrJ, e_clrP, e_clrN, e_s0, e_s1, e_s2, e_s3, e_s4, e_s5, e_s6, e_s7, e_s8, e_s9, e_s10, e_s11, e_s12, e_s13, e_t0, e_t1, e_t2, e_t3, e_t4, e_t5, e_t6, e_t7, e_t8, e_t9, e_t10, e_t11, e_t12, e_t13, e_fd, e_kk, e_k0, e_k1, e_k2, e_k3, e_k4, e_k5, e_k6, e_k7, e_k8, e_k9, e_sv0, e_sv1, e_sv2, e_sv3, e_svc, e_pf0, e_pf1, e_pf2, e_pf3, e_ar, e_aa, e_al, e_sw1, e_sw2, e_ct0, e_ct1, e_ct2, e_cat0, e_cat1, e_rk0, e_rk1, e_rk2, e_inv0, e_inv1, e_inv2, e_inv3, e_inv4, e_inv5, e_inv6, e_o0, e_o1, e_cl, e_cle, e_cg, e_cge, e_ce, e_cr1, e_cr2, e_r, e_R, e_up, Int.cast_ofNat_Int, u_app, false_and, and_false, e_b0, e_b1, e_bn, e_bl, e_bu, Int.reduceLE, Int.reduceLT, Int.reduceEq, Int.reduceNeg, Int.reduceAdd, Int.reduceSub, Int.reduceMul, Nat.reduceLeDiff, Nat.reduceLT, Nat.reduceAdd, Nat.reduceEqDiff, true_and, and_true, true_or, or_true, false_or, or_false, forall_const, not_true_eq_false, not_false_eq_true, true_implies, false_implies, implies_true, and_self, zero_ne_one, one_ne_zero, eq_self, reduceIte, s_X8_place_0, b_X8_place_0, g_X8_18, g_X8_25, T_19, r4]
  exact ⟨by omega, by omega, hk⟩
set_option maxRecDepth 100000 in
theorem C_X8_place {l : Launch} {ad : Int → Nat} {D : va_G} {cy : Nat → ClassId} {Z : State → Prop} (hZ : q_Zg ad Z) : q_Ct l q_T q_N ad D cy Z yX8_place cX8_place 1 (some .int) rm_X8_place sp_X8_place := by
  obtain ⟨hf, hg, hld⟩ := q_chkS k_X8_place
  refine q_met (rk := 0) q_wokT (by decide) rfl hf hg hld rfl (q_skS L_X8_place o_X8_place) ?_ ?_ ?_ ?_ B_X8_place
  · intro i hi; exact absurd hi List.not_mem_nil
  · intro i hi; exact absurd hi List.not_mem_nil
  · intro i hi; exact absurd hi List.not_mem_nil
  · intro i hi; exact absurd hi List.not_mem_nil
theorem rv_X8_place : q_rcv q_T yX8_place.cls sp_X8_place := by
  intro ra μ K h
  obtain ⟨this, rfl, h⟩ := sp_X8_place_i h
  obtain rfl := h.1
  exact ⟨[], 16, 8, _, _, rfl, T_16, rfl, rfl⟩
theorem cm_X8_place : Cond.code yX8_place cX8_place 1 (some .int) ∈ q_tb := by decide +kernel
def sp_X8_isEnd : QP := fun ra μ K => match ra with
  | [.inr (.inr this)] => this = 16 ∧ ∃ (T : Int → Int) (L : Int) (E i : Nat), c_at T L E i μ ∧ K (some (.inl (q_b (m_kd T L i = 0)))) μ
  | _ => False
theorem sp_X8_isEnd_e (this : Int) (μ : QM) (K : Option QV → QM → Prop) : sp_X8_isEnd [.inr (.inr this)] μ K = (this = 16 ∧ ∃ (T : Int → Int) (L : Int) (E i : Nat), c_at T L E i μ ∧ K (some (.inl (q_b (m_kd T L i = 0)))) μ) := propext Iff.rfl
theorem sp_X8_isEnd_i {ra : List QV} {μ : QM} {K : Option QV → QM → Prop} (h : sp_X8_isEnd ra μ K) : ∃ this : Int, ra = [.inr (.inr this)] ∧ (this = 16 ∧ ∃ (T : Int → Int) (L : Int) (E i : Nat), c_at T L E i μ ∧ K (some (.inl (q_b (m_kd T L i = 0)))) μ) := by
  unfold sp_X8_isEnd at h
  split at h
  · exact ⟨_, rfl, h⟩
  · exact h.elim
def rm_X8_isEnd : Room := { frames := 0, cells := 0, slots := 0, locals := 0 }
def G_X8_isEnd : Nat → Nat × QP := fun i => match i with
  | _ => (0, fun _ _ _ => False)
set_option maxRecDepth 100000 in
set_option maxHeartbeats 4000000 in
theorem B_X8_isEnd : q_Body cX8_isEnd 1 u_X8_isEnd fl_X8 ld_X8 G_X8_isEnd q_T 1 s_X8_isEnd sp_X8_isEnd := by
  intro S Rt hR ra μ h
  obtain ⟨this, rfl, h⟩ := sp_X8_isEnd_i h
  refine ⟨by simp [q_sl, q_ct], ?_⟩
  show S 0 [some (.inr (.inr this))] [] μ
  obtain ⟨rfl, T, L, E, i, hat, hk⟩ := h
  obtain ⟨r1, ⟨r2, r3, r4⟩, r5, r6, r7⟩ := c_at_r hat
  have hb := (c_kc_b hat.1 i).1
  unfold q_b at hk
  refine hR 40 [] 0 _ _ _ rfl ?_
  simp only [v_opt_n, v_opt_s, v_nil, v_iconst, v_bipush, v_sipush, v_lconst0, v_lconst1, v_ldc, v_ldcw, v_ldc2, v_iload0, v_iload1, v_iload2, v_iload3, v_iload, v_lload0, v_lload1, v_lload2, v_lload3, v_lload, v_aload0, v_aload1, v_aload2, v_aload3, v_aload, v_istore0, v_istore1, v_istore2, v_istore3, v_istore, v_lstore0, v_lstore1, v_lstore2, v_lstore3, v_lstore, v_astore0, v_astore1, v_astore2, v_astore3, v_astore, v_iinc, v_iadd, v_isub, v_imul, v_iand, v_ior, v_ixor, v_ishl, v_ishr, v_iushr, v_ineg, v_idiv, v_irem, v_ladd, v_lsub, v_lmul, v_lcmp, v_i2l, v_l2i, v_i2c, v_dup, v_dup2, v_if_eq, v_if_ne, v_if_lt, v_if_ge, v_if_gt, v_if_le, v_ic_eq, v_ic_ne, v_ic_lt, v_ic_ge, v_ic_gt, v_ic_le, v_goto, v_tsw, v_lsw, v_ireturn, v_areturn, v_return, v_iaload, v_laload, v_baload, v_caload, v_aaload, v_iastore, v_lastore, v_bastore, v_castore, v_alen, v_invvi, v_invst, v_invsp, e_int, e_lng, e_ref, e_lg0, e_lg1, e_lg2, e_lg3, e_lg4, e_lg5, e_lg6, e_lg7, e_lg8, e_lg9, e_lg10, e_lg11, e_lg12, e_lg13, e_clrI, e_clrJ, e_clrP, e_clrN, e_s0, e_s1, e_s2, e_s3, e_s4, e_s5, e_s6, e_s7, e_s8, e_s9, e_s10, e_s11, e_s12, e_s13, e_t0, e_t1, e_t2, e_t3, e_t4, e_t5, e_t6, e_t7, e_t8, e_t9, e_t10, e_t11, e_t12, e_t13, e_fd, e_kk, e_k0, e_k1, e_k2, e_k3, e_k4, e_k5, e_k6, e_k7, e_k8, e_k9, e_sv0, e_sv1, e_sv2, e_sv3, e_svc, e_pf0, e_pf1, e_pf2, e_pf3, e_ar, e_aa, e_al, e_sw1, e_sw2, e_ct0, e_ct1, e_ct2, e_cat0, e_cat1, e_rk0, e_rk1, e_rk2, e_inv0, e_inv1, e_inv2, e_inv3, e_inv4, e_inv5, e_inv6, e_o0, e_o1, e_cl, e_cle, e_cg, e_cge, e_ce, e_cr1, e_cr2, e_r, e_R, e_up, Int.cast_ofNat_Int, u_app, false_and, and_false, e_b0, e_b1, e_bn, e_bl, e_bu, Int.reduceLE, Int.reduceLT, Int.reduceEq, Int.reduceNeg, Int.reduceAdd, Int.reduceSub, Int.reduceMul, Nat.reduceLeDiff, Nat.reduceLT, Nat.reduceAdd, Nat.reduceEqDiff, true_and, and_true, true_or, or_true, false_or, or_false, forall_const, not_true_eq_false, not_false_eq_true, true_implies, false_implies, implies_true, and_self, zero_ne_one, one_ne_zero, eq_self, reduceIte, s_X8_isEnd_0, b_X8_isEnd_0, s_X8_isEnd_12, b_X8_isEnd_12, s_X8_isEnd_16, b_X8_isEnd_16, s_X8_isEnd_17, b_X8_isEnd_17, g_X8_9, g_X8_25, T_17, r2]
  refine ⟨by omega, by omega, by omega, fun c => ?_, fun c => ?_⟩
  · rw [if_neg c] at hk
    exact hk
  · rw [if_pos c] at hk
    exact hk
set_option maxRecDepth 100000 in
theorem C_X8_isEnd {l : Launch} {ad : Int → Nat} {D : va_G} {cy : Nat → ClassId} {Z : State → Prop} (hZ : q_Zg ad Z) : q_Ct l q_T q_N ad D cy Z yX8_isEnd cX8_isEnd 1 (some .boolean) rm_X8_isEnd sp_X8_isEnd := by
  obtain ⟨hf, hg, hld⟩ := q_chkS k_X8_isEnd
  refine q_met (rk := 1) q_wokT (by decide) rfl hf hg hld rfl (q_skS L_X8_isEnd o_X8_isEnd) ?_ ?_ ?_ ?_ B_X8_isEnd
  · intro i hi; exact absurd hi List.not_mem_nil
  · intro i hi; exact absurd hi List.not_mem_nil
  · intro i hi; exact absurd hi List.not_mem_nil
  · intro i hi; exact absurd hi List.not_mem_nil
theorem rv_X8_isEnd : q_rcv q_T yX8_isEnd.cls sp_X8_isEnd := by
  intro ra μ K h
  obtain ⟨this, rfl, h⟩ := sp_X8_isEnd_i h
  obtain rfl := h.1
  exact ⟨[], 16, 8, _, _, rfl, T_16, rfl, rfl⟩
theorem cm_X8_isEnd : Cond.code yX8_isEnd cX8_isEnd 1 (some .boolean) ∈ q_tb := by decide +kernel
def sp_X8_pass : QP := fun ra μ K => match ra with
  | [.inl sign, .inr (.inr this)] => this = 16 ∧ (0 ≤ sign ∧ sign < 256) ∧ ∃ (T : Int → Int) (L : Int) (E i : Nat), c_at T L E i μ ∧ (m_kd T L i = 4 ∧ m_cd T L i = sign → K (some (.inl 1)) (q_up μ 16 5 ((i : Int) + 1))) ∧ (¬ (m_kd T L i = 4 ∧ m_cd T L i = sign) → K (some (.inl 0)) μ)
  | _ => False
theorem sp_X8_pass_e (this sign : Int) (μ : QM) (K : Option QV → QM → Prop) : sp_X8_pass [.inl sign, .inr (.inr this)] μ K = (this = 16 ∧ (0 ≤ sign ∧ sign < 256) ∧ ∃ (T : Int → Int) (L : Int) (E i : Nat), c_at T L E i μ ∧ (m_kd T L i = 4 ∧ m_cd T L i = sign → K (some (.inl 1)) (q_up μ 16 5 ((i : Int) + 1))) ∧ (¬ (m_kd T L i = 4 ∧ m_cd T L i = sign) → K (some (.inl 0)) μ)) := propext Iff.rfl
theorem sp_X8_pass_i {ra : List QV} {μ : QM} {K : Option QV → QM → Prop} (h : sp_X8_pass ra μ K) : ∃ this sign : Int, ra = [.inl sign, .inr (.inr this)] ∧ (this = 16 ∧ (0 ≤ sign ∧ sign < 256) ∧ ∃ (T : Int → Int) (L : Int) (E i : Nat), c_at T L E i μ ∧ (m_kd T L i = 4 ∧ m_cd T L i = sign → K (some (.inl 1)) (q_up μ 16 5 ((i : Int) + 1))) ∧ (¬ (m_kd T L i = 4 ∧ m_cd T L i = sign) → K (some (.inl 0)) μ)) := by
  unfold sp_X8_pass at h
  split at h
  · exact ⟨_, _, rfl, h⟩
  · exact h.elim
def rm_X8_pass : Room := { frames := 1, cells := 0, slots := 0, locals := 21 }
def G_X8_pass : Nat → Nat × QP := fun i => match i with
  | 118 => (2, sp_X8_look)
  | 122 => (1, sp_X8_step)
  | _ => (0, fun _ _ _ => False)
theorem G_X8_pass_118 : G_X8_pass 118 = (2, sp_X8_look) := id rfl
theorem G_X8_pass_122 : G_X8_pass 122 = (1, sp_X8_step) := id rfl
set_option maxRecDepth 100000 in
set_option maxHeartbeats 4000000 in
theorem B_X8_pass : q_Body cX8_pass 3 u_X8_pass fl_X8 ld_X8 G_X8_pass q_T 1 s_X8_pass sp_X8_pass := by
  intro S Rt hR ra μ h
  obtain ⟨this, sign, rfl, h⟩ := sp_X8_pass_i h
  refine ⟨by simp [q_sl, q_ct], ?_⟩
  show S 0 [some (.inr (.inr this)), some (.inl sign), none] [] μ
  obtain ⟨rfl, h1, T, L, E, i, hat, hk1, hk2⟩ := h
  obtain ⟨r1, ⟨r2, r3, r4⟩, r5, r6, r7⟩ := c_at_r hat
  have hb := (c_kc_b hat.1 i).2.1
  refine hR 40 [] 0 _ _ _ rfl ?_
  simp only [v_opt_n, v_opt_s, v_nil, v_iconst, v_bipush, v_sipush, v_lconst0, v_lconst1, v_ldc, v_ldcw, v_ldc2, v_iload0, v_iload1, v_iload2, v_iload3, v_iload, v_lload0, v_lload1, v_lload2, v_lload3, v_lload, v_aload0, v_aload1, v_aload2, v_aload3, v_aload, v_istore0, v_istore1, v_istore2, v_istore3, v_istore, v_lstore0, v_lstore1, v_lstore2, v_lstore3, v_lstore, v_astore0, v_astore1, v_astore2, v_astore3, v_astore, v_iinc, v_iadd, v_isub, v_imul, v_iand, v_ior, v_ixor, v_ishl, v_ishr, v_iushr, v_ineg, v_idiv, v_irem, v_ladd, v_lsub, v_lmul, v_lcmp, v_i2l, v_l2i, v_i2c, v_dup, v_dup2, v_if_eq, v_if_ne, v_if_lt, v_if_ge, v_if_gt, v_if_le, v_ic_eq, v_ic_ne, v_ic_lt, v_ic_ge, v_ic_gt, v_ic_le, v_goto, v_tsw, v_lsw, v_ireturn, v_areturn, v_return, v_iaload, v_laload, v_baload, v_caload, v_aaload, v_iastore, v_lastore, v_bastore, v_castore, v_alen, v_invvi, v_invst, v_invsp, e_int, e_lng, e_ref, e_lg0, e_lg1, e_lg2, e_lg3, e_lg4, e_lg5, e_lg6, e_lg7, e_lg8, e_lg9, e_lg10, e_lg11, e_lg12, e_lg13, e_clrI, e_clrJ, e_clrP, e_clrN, e_s0, e_s1, e_s2, e_s3, e_s4, e_s5, e_s6, e_s7, e_s8, e_s9, e_s10, e_s11, e_s12, e_s13, e_t0, e_t1, e_t2, e_t3, e_t4, e_t5, e_t6, e_t7, e_t8, e_t9, e_t10, e_t11, e_t12, e_t13, e_fd, e_kk, e_k0, e_k1, e_k2, e_k3, e_k4, e_k5, e_k6, e_k7, e_k8, e_k9, e_sv0, e_sv1, e_sv2, e_sv3, e_svc, e_pf0, e_pf1, e_pf2, e_pf3, e_ar, e_aa, e_al, e_sw1, e_sw2, e_ct0, e_ct1, e_ct2, e_cat0, e_cat1, e_rk0, e_rk1, e_rk2, e_inv0, e_inv1, e_inv2, e_inv3, e_inv4, e_inv5, e_inv6, e_o0, e_o1, e_cl, e_cle, e_cg, e_cge, e_ce, e_cr1, e_cr2, e_r, e_R, e_up, Int.cast_ofNat_Int, u_app, false_and, and_false, e_b0, e_b1, e_bn, e_bl, e_bu, Int.reduceLE, Int.reduceLT, Int.reduceEq, Int.reduceNeg, Int.reduceAdd, Int.reduceSub, Int.reduceMul, Nat.reduceLeDiff, Nat.reduceLT, Nat.reduceAdd, Nat.reduceEqDiff, true_and, and_true, true_or, or_true, false_or, or_false, forall_const, not_true_eq_false, not_false_eq_true, true_implies, false_implies, implies_true, and_self, zero_ne_one, one_ne_zero, eq_self, reduceIte, s_X8_pass_0, b_X8_pass_0, s_X8_pass_9, b_X8_pass_9, s_X8_pass_13, b_X8_pass_13, s_X8_pass_14, b_X8_pass_14, s_X8_pass_19, b_X8_pass_19, s_X8_pass_23, b_X8_pass_23, G_X8_pass_118, sp_X8_look_e, G_X8_pass_122, sp_X8_step_e]
  refine ⟨T, L, E, i, hat, ?_⟩
  by_cases c : m_kd T L i = 4
  · rw [if_pos c]
    exact ⟨by omega, fun c1 => hk2 (fun q => c1 q.2), fun c1 => ⟨T, L, E, i, hat, r5 (by omega), hk1 ⟨c, c1⟩⟩⟩
  · rw [if_neg c]
    exact ⟨by omega, fun c1 => hk2 (fun q => c q.1), fun c1 => by omega⟩
set_option maxRecDepth 100000 in
theorem C_X8_pass {l : Launch} {ad : Int → Nat} {D : va_G} {cy : Nat → ClassId} {Z : State → Prop} (hZ : q_Zg ad Z) : q_Ct l q_T q_N ad D cy Z yX8_pass cX8_pass 3 (some .boolean) rm_X8_pass sp_X8_pass := by
  obtain ⟨hf, hg, hld⟩ := q_chkS k_X8_pass
  refine q_met (rk := 1) q_wokT (by decide) rfl hf hg hld rfl (q_skS L_X8_pass o_X8_pass) ?_ ?_ ?_ ?_ B_X8_pass
  · intro i hi; exact absurd hi List.not_mem_nil
  · intro i hi
    have hi : i = 118 ∨ i = 122 := by simpa [u_X8_pass] using hi
    rcases hi with rfl | rfl
    · exact q_crV hZ.1 (C_X8_look hZ) rv_X8_look cm_X8_look (by decide +kernel) (by decide +kernel) (by decide +kernel) (by decide +kernel) (by decide +kernel) ⟨rfl, rfl⟩ (by decide)
    · exact q_crV hZ.1 (C_X8_step hZ) rv_X8_step cm_X8_step (by decide +kernel) (by decide +kernel) (by decide +kernel) (by decide +kernel) (by decide +kernel) ⟨rfl, rfl⟩ (by decide)
  · intro i hi; exact absurd hi List.not_mem_nil
  · intro i hi; exact absurd hi List.not_mem_nil
theorem rv_X8_pass : q_rcv q_T yX8_pass.cls sp_X8_pass := by
  intro ra μ K h
  obtain ⟨this, sign, rfl, h⟩ := sp_X8_pass_i h
  obtain rfl := h.1
  exact ⟨[.inl sign], 16, 8, _, _, rfl, T_16, rfl, rfl⟩
theorem cm_X8_pass : Cond.code yX8_pass cX8_pass 3 (some .boolean) ∈ q_tb := by decide +kernel
def sp_X3_readNumber : QP := fun ra μ K => match ra with
  | [.inl most, .inl least, .inr (.inr recipe), .inr (.inr this)] => this = 15 ∧ q_rc recipe ∧ (0 ≤ least ∧ least ≤ most ∧ most ≤ 1000000) ∧ ∃ (T : Int → Int) (L : Int) (E i : Nat), c_at T L E i μ ∧ (m_kd T L i = 3 ∧ least ≤ m_cd T L i ∧ m_cd T L i ≤ most → i < E → K (some (.inl 1)) (q_up (q_up μ recipe 4 (m_cd T L i)) 16 5 ((i : Int) + 1))) ∧ (¬ (m_kd T L i = 3 ∧ least ≤ m_cd T L i ∧ m_cd T L i ≤ most) → K (some (.inl 0)) μ)
  | _ => False
theorem sp_X3_readNumber_e (this recipe least most : Int) (μ : QM) (K : Option QV → QM → Prop) : sp_X3_readNumber [.inl most, .inl least, .inr (.inr recipe), .inr (.inr this)] μ K = (this = 15 ∧ q_rc recipe ∧ (0 ≤ least ∧ least ≤ most ∧ most ≤ 1000000) ∧ ∃ (T : Int → Int) (L : Int) (E i : Nat), c_at T L E i μ ∧ (m_kd T L i = 3 ∧ least ≤ m_cd T L i ∧ m_cd T L i ≤ most → i < E → K (some (.inl 1)) (q_up (q_up μ recipe 4 (m_cd T L i)) 16 5 ((i : Int) + 1))) ∧ (¬ (m_kd T L i = 3 ∧ least ≤ m_cd T L i ∧ m_cd T L i ≤ most) → K (some (.inl 0)) μ)) := propext Iff.rfl
theorem sp_X3_readNumber_i {ra : List QV} {μ : QM} {K : Option QV → QM → Prop} (h : sp_X3_readNumber ra μ K) : ∃ this recipe least most : Int, ra = [.inl most, .inl least, .inr (.inr recipe), .inr (.inr this)] ∧ (this = 15 ∧ q_rc recipe ∧ (0 ≤ least ∧ least ≤ most ∧ most ≤ 1000000) ∧ ∃ (T : Int → Int) (L : Int) (E i : Nat), c_at T L E i μ ∧ (m_kd T L i = 3 ∧ least ≤ m_cd T L i ∧ m_cd T L i ≤ most → i < E → K (some (.inl 1)) (q_up (q_up μ recipe 4 (m_cd T L i)) 16 5 ((i : Int) + 1))) ∧ (¬ (m_kd T L i = 3 ∧ least ≤ m_cd T L i ∧ m_cd T L i ≤ most) → K (some (.inl 0)) μ)) := by
  unfold sp_X3_readNumber at h
  split at h
  · exact ⟨_, _, _, _, rfl, h⟩
  · exact h.elim
def rm_X3_readNumber : Room := { frames := 1, cells := 0, slots := 0, locals := 21 }
def G_X3_readNumber : Nat → Nat × QP := fun i => match i with
  | 47 => (2, sp_X8_look)
  | 57 => (1, sp_X8_step)
  | _ => (0, fun _ _ _ => False)
theorem G_X3_readNumber_47 : G_X3_readNumber 47 = (2, sp_X8_look) := id rfl
theorem G_X3_readNumber_57 : G_X3_readNumber 57 = (1, sp_X8_step) := id rfl
set_option maxRecDepth 100000 in
set_option maxHeartbeats 4000000 in
theorem B_X3_readNumber : q_Body cX3_readNumber 5 u_X3_readNumber fl_X3 ld_X3 G_X3_readNumber q_T 1 s_X3_readNumber sp_X3_readNumber := by
  intro S Rt hR ra μ h
  obtain ⟨this, recipe, least, most, rfl, h⟩ := sp_X3_readNumber_i h
  refine ⟨by simp [q_sl, q_ct], ?_⟩
  show S 0 [some (.inr (.inr this)), some (.inr (.inr recipe)), some (.inl least), some (.inl most), none] [] μ
  obtain ⟨rfl, h1, h2, T, L, E, i, hat, hk1, hk2⟩ := h
  obtain ⟨r1, ⟨r2, r3, r4⟩, r5, r6, r7⟩ := c_at_r hat
  have hb := (c_kc_b hat.1 i).2.1
  have hT := T_rec h1
  have h0 : 0 ≤ recipe := by omega
  have hat2 : c_at T L E i (q_up μ recipe 4 (m_cd T L i)) := by
    refine c_at_s hat hat.2.2.1 (fun a j q => ?_) ?_
    · rw [u_app, if_neg (by omega)]
    · rw [u_app, if_neg (by omega)]
      exact hat.2.2.2
  refine hR 40 [] 0 _ _ _ rfl ?_
  simp only [v_opt_n, v_opt_s, v_nil, v_iconst, v_bipush, v_sipush, v_lconst0, v_lconst1, v_ldc, v_ldcw, v_ldc2, v_iload0, v_iload1, v_iload2, v_iload3, v_iload, v_lload0, v_lload1, v_lload2, v_lload3, v_lload, v_aload0, v_aload1, v_aload2, v_aload3, v_aload, v_istore0, v_istore1, v_istore2, v_istore3, v_istore, v_lstore0, v_lstore1, v_lstore2, v_lstore3, v_lstore, v_astore0, v_astore1, v_astore2, v_astore3, v_astore, v_iinc, v_iadd, v_isub, v_imul, v_iand, v_ior, v_ixor, v_ishl, v_ishr, v_iushr, v_ineg, v_idiv, v_irem, v_ladd, v_lsub, v_lmul, v_lcmp, v_i2l, v_l2i, v_i2c, v_dup, v_dup2, v_if_eq, v_if_ne, v_if_lt, v_if_ge, v_if_gt, v_if_le, v_ic_eq, v_ic_ne, v_ic_lt, v_ic_ge, v_ic_gt, v_ic_le, v_goto, v_tsw, v_lsw, v_ireturn, v_areturn, v_return, v_iaload, v_laload, v_baload, v_caload, v_aaload, v_iastore, v_lastore, v_bastore, v_castore, v_alen, v_invvi, v_invst, v_invsp, e_int, e_lng, e_ref, e_lg0, e_lg1, e_lg2, e_lg3, e_lg4, e_lg5, e_lg6, e_lg7, e_lg8, e_lg9, e_lg10, e_lg11, e_lg12, e_lg13, e_clrI, e_clrJ, e_clrP, e_clrN, e_s0, e_s1, e_s2, e_s3, e_s4, e_s5, e_s6, e_s7, e_s8, e_s9, e_s10, e_s11, e_s12, e_s13, e_t0, e_t1, e_t2, e_t3, e_t4, e_t5, e_t6, e_t7, e_t8, e_t9, e_t10, e_t11, e_t12, e_t13, e_fd, e_kk, e_k0, e_k1, e_k2, e_k3, e_k4, e_k5, e_k6, e_k7, e_k8, e_k9, e_sv0, e_sv1, e_sv2, e_sv3, e_svc, e_pf0, e_pf1, e_pf2, e_pf3, e_ar, e_aa, e_al, e_sw1, e_sw2, e_ct0, e_ct1, e_ct2, e_cat0, e_cat1, e_rk0, e_rk1, e_rk2, e_inv0, e_inv1, e_inv2, e_inv3, e_inv4, e_inv5, e_inv6, e_o0, e_o1, e_cl, e_cle, e_cg, e_cge, e_ce, e_cr1, e_cr2, e_r, e_R, e_up, Int.cast_ofNat_Int, u_app, false_and, and_false, e_b0, e_b1, e_bn, e_bl, e_bu, Int.reduceLE, Int.reduceLT, Int.reduceEq, Int.reduceNeg, Int.reduceAdd, Int.reduceSub, Int.reduceMul, Nat.reduceLeDiff, Nat.reduceLT, Nat.reduceAdd, Nat.reduceEqDiff, true_and, and_true, true_or, or_true, false_or, or_false, forall_const, not_true_eq_false, not_false_eq_true, true_implies, false_implies, implies_true, and_self, zero_ne_one, one_ne_zero, eq_self, reduceIte, v_getf, v_putf, s_X3_readNumber_0, b_X3_readNumber_0, s_X3_readNumber_16, b_X3_readNumber_16, s_X3_readNumber_22, b_X3_readNumber_22, s_X3_readNumber_24, b_X3_readNumber_24, fl_X3_14, T_15, fl_X3_101, G_X3_readNumber_47, sp_X8_look_e, G_X3_readNumber_57, sp_X8_step_e, hT]
  refine ⟨T, L, E, i, hat, ?_⟩
  by_cases c : m_kd T L i = 3
  · rw [if_pos c]
    have hE := r5 (by omega)
    exact ⟨by omega, fun c1 => hk2 (by omega), fun c1 => ⟨by omega, fun c2 => ⟨h0, T, L, E, i, hat2, hE, hk1 ⟨c, by omega, c2⟩ hE⟩, fun c2 => hk2 (by omega)⟩⟩
  · rw [if_neg c]
    exact ⟨by omega, fun c1 => hk2 (by omega), fun c1 => by omega⟩
set_option maxRecDepth 100000 in
theorem C_X3_readNumber {l : Launch} {ad : Int → Nat} {D : va_G} {cy : Nat → ClassId} {Z : State → Prop} (hZ : q_Zg ad Z) : q_Ct l q_T q_N ad D cy Z yX3_readNumber cX3_readNumber 5 (some .boolean) rm_X3_readNumber sp_X3_readNumber := by
  obtain ⟨hf, hg, hld⟩ := q_chkS k_X3_readNumber
  refine q_met (rk := 1) q_wokT (by decide) rfl hf hg hld rfl (q_skS L_X3_readNumber o_X3_readNumber) ?_ ?_ ?_ ?_ B_X3_readNumber
  · intro i hi; exact absurd hi List.not_mem_nil
  · intro i hi
    have hi : i = 47 ∨ i = 57 := by simpa [u_X3_readNumber] using hi
    rcases hi with rfl | rfl
    · exact q_crV hZ.1 (C_X8_look hZ) rv_X8_look cm_X8_look (by decide +kernel) (by decide +kernel) (by decide +kernel) (by decide +kernel) (by decide +kernel) ⟨rfl, rfl⟩ (by decide)
    · exact q_crV hZ.1 (C_X8_step hZ) rv_X8_step cm_X8_step (by decide +kernel) (by decide +kernel) (by decide +kernel) (by decide +kernel) (by decide +kernel) ⟨rfl, rfl⟩ (by decide)
  · intro i hi; exact absurd hi List.not_mem_nil
  · intro i hi; exact absurd hi List.not_mem_nil
theorem rv_X3_readNumber : q_rcv q_T yX3_readNumber.cls sp_X3_readNumber := by
  intro ra μ K h
  obtain ⟨this, recipe, least, most, rfl, h⟩ := sp_X3_readNumber_i h
  obtain rfl := h.1
  exact ⟨[.inl most, .inl least, .inr (.inr recipe)], 15, 3, _, _, rfl, T_15, rfl, rfl⟩
theorem cm_X3_readNumber : Cond.code yX3_readNumber cX3_readNumber 5 (some .boolean) ∈ q_tb := by decide +kernel
def sp_X3_readHow : QP := fun ra μ K => match ra with
  | [.inr (.inr recipe), .inr (.inr this)] => this = 15 ∧ q_rc recipe ∧ ∃ (T : Int → Int) (L : Int) (E i : Nat), c_at T L E i μ ∧ (¬ m_hw T L i = -1 → i < E → K (some (.inl 1)) (q_up (q_up μ recipe 3 (m_hw T L i)) 16 5 ((i : Int) + 1))) ∧ (m_hw T L i = -1 → K (some (.inl 0)) μ)
  | _ => False
theorem sp_X3_readHow_e (this recipe : Int) (μ : QM) (K : Option QV → QM → Prop) : sp_X3_readHow [.inr (.inr recipe), .inr (.inr this)] μ K = (this = 15 ∧ q_rc recipe ∧ ∃ (T : Int → Int) (L : Int) (E i : Nat), c_at T L E i μ ∧ (¬ m_hw T L i = -1 → i < E → K (some (.inl 1)) (q_up (q_up μ recipe 3 (m_hw T L i)) 16 5 ((i : Int) + 1))) ∧ (m_hw T L i = -1 → K (some (.inl 0)) μ)) := propext Iff.rfl
theorem sp_X3_readHow_i {ra : List QV} {μ : QM} {K : Option QV → QM → Prop} (h : sp_X3_readHow ra μ K) : ∃ this recipe : Int, ra = [.inr (.inr recipe), .inr (.inr this)] ∧ (this = 15 ∧ q_rc recipe ∧ ∃ (T : Int → Int) (L : Int) (E i : Nat), c_at T L E i μ ∧ (¬ m_hw T L i = -1 → i < E → K (some (.inl 1)) (q_up (q_up μ recipe 3 (m_hw T L i)) 16 5 ((i : Int) + 1))) ∧ (m_hw T L i = -1 → K (some (.inl 0)) μ)) := by
  unfold sp_X3_readHow at h
  split at h
  · exact ⟨_, _, rfl, h⟩
  · exact h.elim
def rm_X3_readHow : Room := { frames := 1, cells := 0, slots := 0, locals := 21 }
def G_X3_readHow : Nat → Nat × QP := fun i => match i with
  | 47 => (2, sp_X8_look)
  | 57 => (1, sp_X8_step)
  | _ => (0, fun _ _ _ => False)
theorem G_X3_readHow_47 : G_X3_readHow 47 = (2, sp_X8_look) := id rfl
theorem G_X3_readHow_57 : G_X3_readHow 57 = (1, sp_X8_step) := id rfl
set_option maxRecDepth 100000 in
set_option maxHeartbeats 4000000 in
theorem B_X3_readHow : q_Body cX3_readHow 3 u_X3_readHow fl_X3 ld_X3 G_X3_readHow q_T 1 s_X3_readHow sp_X3_readHow := by
  intro S Rt hR ra μ h
  obtain ⟨this, recipe, rfl, h⟩ := sp_X3_readHow_i h
  refine ⟨by simp [q_sl, q_ct], ?_⟩
  show S 0 [some (.inr (.inr this)), some (.inr (.inr recipe)), none] [] μ
  obtain ⟨rfl, h1, T, L, E, i, hat, hk1, hk2⟩ := h
  obtain ⟨r1, ⟨r2, r3, r4⟩, r5, r6, r7⟩ := c_at_r hat
  have hb := (c_kc_b hat.1 i).2.1
  have hT := T_rec h1
  have h0 : 0 ≤ recipe := by omega
  have hat2 : c_at T L E i (q_up μ recipe 3 (m_cd T L i)) := by
    refine c_at_s hat hat.2.2.1 (fun a j q => ?_) ?_
    · rw [u_app, if_neg (by omega)]
    · rw [u_app, if_neg (by omega)]
      exact hat.2.2.2
  unfold m_hw at hk1 hk2
  have g : m_kd T L i = 2 → (m_cd T L i = 4 ∨ m_cd T L i = 5 ∨ m_cd T L i = 13 ∨ m_cd T L i = 14) → 0 ≤ recipe ∧ ∃ (T' : Int → Int) (L' : Int) (E' i' : Nat), c_at T' L' E' i' (q_up μ recipe 3 (m_cd T L i)) ∧ i' < E' ∧ Rt (some (.inl 1)) (q_up (q_up μ recipe 3 (m_cd T L i)) 16 5 ((i' : Int) + 1)) := fun c d => by
    rw [if_pos ⟨c, d⟩] at hk1
    have hE := r5 (by omega)
    exact ⟨h0, T, L, E, i, hat2, hE, hk1 (by omega) hE⟩
  refine hR 40 [] 0 _ _ _ rfl ?_
  simp only [v_opt_n, v_opt_s, v_nil, v_iconst, v_bipush, v_sipush, v_lconst0, v_lconst1, v_ldc, v_ldcw, v_ldc2, v_iload0, v_iload1, v_iload2, v_iload3, v_iload, v_lload0, v_lload1, v_lload2, v_lload3, v_lload, v_aload0, v_aload1, v_aload2, v_aload3, v_aload, v_istore0, v_istore1, v_istore2, v_istore3, v_istore, v_lstore0, v_lstore1, v_lstore2, v_lstore3, v_lstore, v_astore0, v_astore1, v_astore2, v_astore3, v_astore, v_iinc, v_iadd, v_isub, v_imul, v_iand, v_ior, v_ixor, v_ishl, v_ishr, v_iushr, v_ineg, v_idiv, v_irem, v_ladd, v_lsub, v_lmul, v_lcmp, v_i2l, v_l2i, v_i2c, v_dup, v_dup2, v_if_eq, v_if_ne, v_if_lt, v_if_ge, v_if_gt, v_if_le, v_ic_eq, v_ic_ne, v_ic_lt, v_ic_ge, v_ic_gt, v_ic_le, v_goto, v_tsw, v_lsw, v_ireturn, v_areturn, v_return, v_iaload, v_laload, v_baload, v_caload, v_aaload, v_iastore, v_lastore, v_bastore, v_castore, v_alen, v_invvi, v_invst, v_invsp, e_int, e_lng, e_ref, e_lg0, e_lg1, e_lg2, e_lg3, e_lg4, e_lg5, e_lg6, e_lg7, e_lg8, e_lg9, e_lg10, e_lg11, e_lg12, e_lg13, e_clrI, e_clrJ, e_clrP, e_clrN, e_s0, e_s1, e_s2, e_s3, e_s4, e_s5, e_s6, e_s7, e_s8, e_s9, e_s10, e_s11, e_s12, e_s13, e_t0, e_t1, e_t2, e_t3, e_t4, e_t5, e_t6, e_t7, e_t8, e_t9, e_t10, e_t11, e_t12, e_t13, e_fd, e_kk, e_k0, e_k1, e_k2, e_k3, e_k4, e_k5, e_k6, e_k7, e_k8, e_k9, e_sv0, e_sv1, e_sv2, e_sv3, e_svc, e_pf0, e_pf1, e_pf2, e_pf3, e_ar, e_aa, e_al, e_sw1, e_sw2, e_ct0, e_ct1, e_ct2, e_cat0, e_cat1, e_rk0, e_rk1, e_rk2, e_inv0, e_inv1, e_inv2, e_inv3, e_inv4, e_inv5, e_inv6, e_o0, e_o1, e_cl, e_cle, e_cg, e_cge, e_ce, e_cr1, e_cr2, e_r, e_R, e_up, Int.cast_ofNat_Int, u_app, false_and, and_false, e_b0, e_b1, e_bn, e_bl, e_bu, Int.reduceLE, Int.reduceLT, Int.reduceEq, Int.reduceNeg, Int.reduceAdd, Int.reduceSub, Int.reduceMul, Nat.reduceLeDiff, Nat.reduceLT, Nat.reduceAdd, Nat.reduceEqDiff, true_and, and_true, true_or, or_true, false_or, or_false, forall_const, not_true_eq_false, not_false_eq_true, true_implies, false_implies, implies_true, and_self, zero_ne_one, one_ne_zero, eq_self, reduceIte, v_getf, v_putf, s_X3_readHow_0, b_X3_readHow_0, s_X3_readHow_15, b_X3_readHow_15, s_X3_readHow_20, b_X3_readHow_20, s_X3_readHow_25, b_X3_readHow_25, s_X3_readHow_31, b_X3_readHow_31, s_X3_readHow_33, b_X3_readHow_33, fl_X3_14, T_15, fl_X3_95, G_X3_readHow_47, sp_X8_look_e, G_X3_readHow_57, sp_X8_step_e, hT]
  refine ⟨T, L, E, i, hat, ?_⟩
  by_cases c : m_kd T L i = 2
  · rw [if_pos c]
    exact ⟨by omega, fun c1 => g c (by omega), fun c1 => ⟨by omega, fun c2 => g c (by omega), fun c2 => ⟨by omega, fun c3 => g c (by omega), fun c3 => ⟨by omega, fun c4 => g c (by omega), fun c4 => by rw [if_neg (by omega)] at hk2; exact hk2 rfl⟩⟩⟩⟩
  · rw [if_neg c]
    rw [if_neg (fun q => c q.1)] at hk2
    exact ⟨by omega, fun c1 => by omega, fun c1 => ⟨by omega, fun c2 => by omega, fun c2 => ⟨by omega, fun c3 => by omega, fun c3 => ⟨by omega, fun c4 => by omega, fun c4 => hk2 rfl⟩⟩⟩⟩
set_option maxRecDepth 100000 in
theorem C_X3_readHow {l : Launch} {ad : Int → Nat} {D : va_G} {cy : Nat → ClassId} {Z : State → Prop} (hZ : q_Zg ad Z) : q_Ct l q_T q_N ad D cy Z yX3_readHow cX3_readHow 3 (some .boolean) rm_X3_readHow sp_X3_readHow := by
  obtain ⟨hf, hg, hld⟩ := q_chkS k_X3_readHow
  refine q_met (rk := 1) q_wokT (by decide) rfl hf hg hld rfl (q_skS L_X3_readHow o_X3_readHow) ?_ ?_ ?_ ?_ B_X3_readHow
  · intro i hi; exact absurd hi List.not_mem_nil
  · intro i hi
    have hi : i = 47 ∨ i = 57 := by simpa [u_X3_readHow] using hi
    rcases hi with rfl | rfl
    · exact q_crV hZ.1 (C_X8_look hZ) rv_X8_look cm_X8_look (by decide +kernel) (by decide +kernel) (by decide +kernel) (by decide +kernel) (by decide +kernel) ⟨rfl, rfl⟩ (by decide)
    · exact q_crV hZ.1 (C_X8_step hZ) rv_X8_step cm_X8_step (by decide +kernel) (by decide +kernel) (by decide +kernel) (by decide +kernel) (by decide +kernel) ⟨rfl, rfl⟩ (by decide)
  · intro i hi; exact absurd hi List.not_mem_nil
  · intro i hi; exact absurd hi List.not_mem_nil
theorem rv_X3_readHow : q_rcv q_T yX3_readHow.cls sp_X3_readHow := by
  intro ra μ K h
  obtain ⟨this, recipe, rfl, h⟩ := sp_X3_readHow_i h
  obtain rfl := h.1
  exact ⟨[.inr (.inr recipe)], 15, 3, _, _, rfl, T_15, rfl, rfl⟩
theorem cm_X3_readHow : Cond.code yX3_readHow cX3_readHow 3 (some .boolean) ∈ q_tb := by decide +kernel

