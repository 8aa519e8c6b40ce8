/-! the class: makings -/
/-- a recipe stands as the making's words say -/
def c_rk (T : Int → Int) (L : Int) (nm : Int → Int) (kd : Int) (i : Nat) (r : Int) (ν : QM) : Prop := ν r 2 = kd ∧ ν r 4 = (m_mk T L nm kd (0, i)).2.1 ∧ (kd = 10 ∨ kd = 11 → ν r 3 = (m_mk T L nm kd (0, i)).2.2.1) ∧ ν r 1 = m_mn kd ∧ ∀ k : Nat, (k : Int) < m_mn kd → ν (r + 10) k = (m_mk T L nm kd (0, i)).2.2.2 k
def c_mf (μ : QM) (r : Int) (ν : QM) : Prop := (∀ a j : Int, ¬ (a = 16 ∧ j = 5) → ¬ a = r → ¬ a = r + 10 → ν a j = μ a j) ∧ ∀ k : Int, ν (r + 10) k = μ (r + 10) k ∨ (0 ≤ ν (r + 10) k ∧ ν (r + 10) k < 10)
def c_mks (T : Int → Int) (L : Int) (nm : Int → Int) (i : Nat) : Int × Nat := if m_kw T L i = -1 then (1, i) else (m_mk T L nm (m_kw T L i) (0, i + 1)).1
def sp_X3_readMaking : QP := fun ra μ K => match ra with
  | [.inr (.inr recipe), .inr (.inr this)] => this = 15 ∧ q_rc recipe ∧ ∃ (P : Int) (nm : Int → Int) (T : Int → Int) (L : Int) (E i : Nat), c_nm P nm μ ∧ c_at T L E i μ ∧ ∀ ν : QM, c_mf μ recipe ν → c_at T L E (c_mks T L nm i).2 ν → ((c_mks T L nm i).1 = 0 → c_rk T L nm (m_kw T L i) (i + 1) recipe ν) → K (some (.inl (q_b ((c_mks T L nm i).1 = 0)))) ν
  | _ => False
theorem sp_X3_readMaking_e (this recipe : Int) (μ : QM) (K : Option QV → QM → Prop) : sp_X3_readMaking [.inr (.inr recipe), .inr (.inr this)] μ K = (this = 15 ∧ q_rc recipe ∧ ∃ (P : Int) (nm : Int → Int) (T : Int → Int) (L : Int) (E i : Nat), c_nm P nm μ ∧ c_at T L E i μ ∧ ∀ ν : QM, c_mf μ recipe ν → c_at T L E (c_mks T L nm i).2 ν → ((c_mks T L nm i).1 = 0 → c_rk T L nm (m_kw T L i) (i + 1) recipe ν) → K (some (.inl (q_b ((c_mks T L nm i).1 = 0)))) ν) := propext Iff.rfl
theorem sp_X3_readMaking_i {ra : List QV} {μ : QM} {K : Option QV → QM → Prop} (h : sp_X3_readMaking ra μ K) : ∃ this recipe : Int, ra = [.inr (.inr recipe), .inr (.inr this)] ∧ (this = 15 ∧ q_rc recipe ∧ ∃ (P : Int) (nm : Int → Int) (T : Int → Int) (L : Int) (E i : Nat), c_nm P nm μ ∧ c_at T L E i μ ∧ ∀ ν : QM, c_mf μ recipe ν → c_at T L E (c_mks T L nm i).2 ν → ((c_mks T L nm i).1 = 0 → c_rk T L nm (m_kw T L i) (i + 1) recipe ν) → K (some (.inl (q_b ((c_mks T L nm i).1 = 0)))) ν) := by
  unfold sp_X3_readMaking at h
  split at h
  · exact ⟨_, _, rfl, h⟩
  · exact h.elim
def rm_X3_readMaking : Room := { frames := 3, cells := 0, slots := 0, locals := 67 }
def G_X3_readMaking : Nat → Nat × QP := fun i => match i with
  | 47 => (2, sp_X8_look)
  | 57 => (1, sp_X8_step)
  | 76 => (2, sp_X4_begin)
  | 81 => (4, sp_X3_readNumber)
  | 85 => (3, sp_X3_readNames)
  | 89 => (2, sp_X3_readSigned)
  | 92 => (2, sp_X3_readHow)
  | _ => (0, fun _ _ _ => False)
theorem G_X3_readMaking_47 : G_X3_readMaking 47 = (2, sp_X8_look) := id rfl
theorem G_X3_readMaking_57 : G_X3_readMaking 57 = (1, sp_X8_step) := id rfl
theorem G_X3_readMaking_76 : G_X3_readMaking 76 = (2, sp_X4_begin) := id rfl
theorem G_X3_readMaking_81 : G_X3_readMaking 81 = (4, sp_X3_readNumber) := id rfl
theorem G_X3_readMaking_85 : G_X3_readMaking 85 = (3, sp_X3_readNames) := id rfl
theorem G_X3_readMaking_89 : G_X3_readMaking 89 = (2, sp_X3_readSigned) := id rfl
theorem G_X3_readMaking_92 : G_X3_readMaking 92 = (2, sp_X3_readHow) := id rfl
def L2_X3_readMaking : List (Nat × Option (List QE)) := [(0, some b_X3_readMaking_0), (13, some b_X3_readMaking_13), (19, some b_X3_readMaking_19), (21, some b_X3_readMaking_21), (100, none), (108, none), (115, none), (124, some b_X3_readMaking_124), (132, some b_X3_readMaking_132), (136, some b_X3_readMaking_136), (137, some b_X3_readMaking_137), (138, none), (148, some b_X3_readMaking_148), (156, some b_X3_readMaking_156), (165, some b_X3_readMaking_165), (169, some b_X3_readMaking_169), (170, some b_X3_readMaking_170), (171, none), (179, some b_X3_readMaking_179), (188, some b_X3_readMaking_188), (192, some b_X3_readMaking_192), (193, some b_X3_readMaking_193), (194, none), (201, none)]
def s2_X3_readMaking : Nat → Option (List QE) := q_look L2_X3_readMaking
theorem s2_X3_readMaking_0 : s2_X3_readMaking 0 = some b_X3_readMaking_0 := id rfl
theorem s2_X3_readMaking_13 : s2_X3_readMaking 13 = some b_X3_readMaking_13 := id rfl
theorem s2_X3_readMaking_19 : s2_X3_readMaking 19 = some b_X3_readMaking_19 := id rfl
theorem s2_X3_readMaking_21 : s2_X3_readMaking 21 = some b_X3_readMaking_21 := id rfl
theorem s2_X3_readMaking_100 : s2_X3_readMaking 100 = none := id rfl
theorem s2_X3_readMaking_108 : s2_X3_readMaking 108 = none := id rfl
theorem s2_X3_readMaking_115 : s2_X3_readMaking 115 = none := id rfl
theorem s2_X3_readMaking_124 : s2_X3_readMaking 124 = some b_X3_readMaking_124 := id rfl
theorem s2_X3_readMaking_132 : s2_X3_readMaking 132 = some b_X3_readMaking_132 := id rfl
theorem s2_X3_readMaking_136 : s2_X3_readMaking 136 = some b_X3_readMaking_136 := id rfl
theorem s2_X3_readMaking_137 : s2_X3_readMaking 137 = some b_X3_readMaking_137 := id rfl
theorem s2_X3_readMaking_138 : s2_X3_readMaking 138 = none := id rfl
theorem s2_X3_readMaking_148 : s2_X3_readMaking 148 = some b_X3_readMaking_148 := id rfl
theorem s2_X3_readMaking_156 : s2_X3_readMaking 156 = some b_X3_readMaking_156 := id rfl
theorem s2_X3_readMaking_165 : s2_X3_readMaking 165 = some b_X3_readMaking_165 := id rfl
theorem s2_X3_readMaking_169 : s2_X3_readMaking 169 = some b_X3_readMaking_169 := id rfl
theorem s2_X3_readMaking_170 : s2_X3_readMaking 170 = some b_X3_readMaking_170 := id rfl
theorem s2_X3_readMaking_171 : s2_X3_readMaking 171 = none := id rfl
theorem s2_X3_readMaking_179 : s2_X3_readMaking 179 = some b_X3_readMaking_179 := id rfl
theorem s2_X3_readMaking_188 : s2_X3_readMaking 188 = some b_X3_readMaking_188 := id rfl
theorem s2_X3_readMaking_192 : s2_X3_readMaking 192 = some b_X3_readMaking_192 := id rfl
theorem s2_X3_readMaking_193 : s2_X3_readMaking 193 = some b_X3_readMaking_193 := id rfl
theorem s2_X3_readMaking_194 : s2_X3_readMaking 194 = none := id rfl
theorem s2_X3_readMaking_201 : s2_X3_readMaking 201 = none := id rfl
theorem o2_X3_readMaking : q_skok cX3_readMaking 3 u_X3_readMaking L2_X3_readMaking = true := by decide +kernel
theorem o2_X3_readMaking_194 : q_ok cX3_readMaking 3 u_X3_readMaking 194 b_X3_readMaking_194 = true := by decide +kernel
theorem o2_X3_readMaking_100 : q_ok cX3_readMaking 3 u_X3_readMaking 100 b_X3_readMaking_100 = true := by decide +kernel
theorem o2_X3_readMaking_201 : q_ok cX3_readMaking 3 u_X3_readMaking 201 b_X3_readMaking_201 = true := by decide +kernel
theorem o2_X3_readMaking_138 : q_ok cX3_readMaking 3 u_X3_readMaking 138 b_X3_readMaking_138 = true := by decide +kernel
theorem o2_X3_readMaking_171 : q_ok cX3_readMaking 3 u_X3_readMaking 171 b_X3_readMaking_171 = true := by decide +kernel
theorem o2_X3_readMaking_108 : q_ok cX3_readMaking 3 u_X3_readMaking 108 b_X3_readMaking_108 = true := by decide +kernel
theorem o2_X3_readMaking_115 : q_ok cX3_readMaking 3 u_X3_readMaking 115 b_X3_readMaking_115 = true := by decide +kernel
theorem c_mf_rf {μ ν ν' : QM} {r : Int} (h1 : c_mf μ r ν) (h2 : c_rf ν r ν') : c_mf μ r ν' := by
  refine ⟨fun a j n1 n2 n3 => ?_, fun k => ?_⟩
  · rw [h2.1 a j n1 (by omega) n3]
    exact h1.1 a j n1 n2 n3
  · rcases h2.2 k with q | q
    · rw [q]
      exact h1.2 k
    · exact Or.inr q
theorem c_mf_up {μ ν : QM} {r j v : Int} (h1 : c_mf μ r ν) : c_mf μ r (q_up ν r j v) := by
  refine ⟨fun a i n1 n2 n3 => ?_, fun k => ?_⟩
  · rw [u_app, if_neg (by omega)]
    exact h1.1 a i n1 n2 n3
  · rw [u_app, if_neg (by omega)]
    exact h1.2 k
theorem c_mf_st {μ ν : QM} {r v : Int} (hr : q_rc r) (h1 : c_mf μ r ν) : c_mf μ r (q_up ν 16 5 v) := by
  refine ⟨fun a i n1 n2 n3 => ?_, fun k => ?_⟩
  · rw [u_app, if_neg (by omega)]
    exact h1.1 a i n1 n2 n3
  · rw [u_app, if_neg (by omega)]
    exact h1.2 k
theorem c_nm_mf {μ ν : QM} {r P : Int} {nm : Int → Int} (hr : q_rc r) (hn : c_nm P nm μ) (h1 : c_mf μ r ν) : c_nm P nm ν := by
  obtain ⟨p1, p2, p3, p4⟩ := hn
  refine ⟨p1, ?_, fun j j0 j1 => ?_, p4⟩
  · rw [h1.1 15 1 (by omega) (by omega) (by omega)]
    exact p2
  · rw [h1.1 (P + 2) j (by omega) (by omega) (by omega)]
    exact p3 j j0 j1
theorem c_at_up {T : Int → Int} {L : Int} {E i : Nat} {ν : QM} {r j v : Int} (hr : q_rc r) (h : c_at T L E i ν) : c_at T L E i (q_up ν r j v) := by
  refine c_at_s h h.2.2.1 (fun a i q => ?_) ?_
  · rw [u_app, if_neg (by omega)]
  · rw [u_app, if_neg (by omega)]
    exact h.2.2.2
theorem c_at_st {T : Int → Int} {L : Int} {E i : Nat} {ν : QM} (hi : i < E) (h : c_at T L E i ν) : c_at T L E (i + 1) (q_up ν 16 5 ((i : Int) + 1)) := by
  refine c_at_s h hi (fun a j q => ?_) ?_
  · rw [u_app, if_neg (by omega)]
  · rw [u_app, if_pos ⟨rfl, rfl⟩]
    omega
theorem rm_100 {Rt : Option QV → QM → Prop} {S : Nat → QL → List QV → QM → Prop} (hR : q_Rule cX3_readMaking 3 u_X3_readMaking fl_X3 ld_X3 G_X3_readMaking q_T 1 s2_X3_readMaking Rt S) {μ ν : QM} {r P : Int} {nm : Int → Int} {T : Int → Int} {L : Int} {E p : Nat} (hr : q_rc r) (hn : c_nm P nm μ) (hm : c_mf μ r ν) (hat : c_at T L E p ν) (h1 : ν r 1 = 0) (h2 : ν r 2 = 0) (h4 : ν r 4 = 0) (hk : ∀ ν' : QM, c_mf μ r ν' → c_at T L E (m_mk T L nm 0 (0, p)).1.2 ν' → ((m_mk T L nm 0 (0, p)).1.1 = 0 → c_rk T L nm 0 p r ν') → Rt (some (.inl (q_b ((m_mk T L nm 0 (0, p)).1.1 = 0)))) ν') : S 100 [some (.inr (.inr 15)), some (.inr (.inr r)), some (.inl 0)] [] ν := by
  have h0 : 0 ≤ r := by omega
  unfold c_rk m_mk m_mn at hk
  simp only [Int.reduceEq, if_false, if_true, or_self] at hk
  refine hR 40 b_X3_readMaking_100 100 _ _ _ o2_X3_readMaking_100 ?_
  simp only [v_opt_n, v_opt_s, v_nil, v_iconst, v_bipush, v_sipush, v_lconst0, v_lconst1, v_ldc, v_ldcw, v_ldc2, v_iload0, v_iload1, v_iload2, v_iload3, v_iload, v_lload0, v_lload1, v_lload2, v_lload3, v_lload, v_aload0, v_aload1, v_aload2, v_aload3, v_aload, v_istore0, v_istore1, v_istore2, v_istore3, v_istore, v_lstore0, v_lstore1, v_lstore2, v_lstore3, v_lstore, v_astore0, v_astore1, v_astore2, v_astore3, v_astore, v_iinc, v_iadd, v_isub, v_imul, v_iand, v_ior, v_ixor, v_ishl, v_ishr, v_iushr, v_ineg, v_idiv, v_irem, v_ladd, v_lsub, v_lmul, v_lcmp, v_i2l, v_l2i, v_i2c, v_dup, v_dup2, v_if_eq, v_if_ne, v_if_lt, v_if_ge, v_if_gt, v_if_le, v_ic_eq, v_ic_ne, v_ic_lt, v_ic_ge, v_ic_gt, v_ic_le, v_goto, v_tsw, v_lsw, v_ireturn, v_areturn, v_return, v_iaload, v_laload, v_baload, v_caload, v_aaload, v_iastore, v_lastore, v_bastore, v_castore, v_alen, v_invvi, v_invst, v_invsp, e_int, e_lng, e_ref, e_lg0, e_lg1, e_lg2, e_lg3, e_lg4, e_lg5, e_lg6, e_lg7, e_lg8, e_lg9, e_lg10, e_lg11, e_lg12, e_lg13, e_clrI, e_clrJ, e_clrP, e_clrN, e_s0, e_s1, e_s2, e_s3, e_s4, e_s5, e_s6, e_s7, e_s8, e_s9, e_s10, e_s11, e_s12, e_s13, e_t0, e_t1, e_t2, e_t3, e_t4, e_t5, e_t6, e_t7, e_t8, e_t9, e_t10, e_t11, e_t12, e_t13, e_fd, e_kk, e_k0, e_k1, e_k2, e_k3, e_k4, e_k5, e_k6, e_k7, e_k8, e_k9, e_sv0, e_sv1, e_sv2, e_sv3, e_svc, e_pf0, e_pf1, e_pf2, e_pf3, e_ar, e_aa, e_al, e_sw1, e_sw2, e_ct0, e_ct1, e_ct2, e_cat0, e_cat1, e_rk0, e_rk1, e_rk2, e_inv0, e_inv1, e_inv2, e_inv3, e_inv4, e_inv5, e_inv6, e_o0, e_o1, e_cl, e_cle, e_cg, e_cge, e_ce, e_cr1, e_cr2, e_r, e_R, e_up, Int.cast_ofNat_Int, u_app, false_and, and_false, e_b0, e_b1, e_bn, e_bl, e_bu, Int.reduceLE, Int.reduceLT, Int.reduceEq, Int.reduceNeg, Int.reduceAdd, Int.reduceSub, Int.reduceMul, Nat.reduceLeDiff, Nat.reduceLT, Nat.reduceAdd, Nat.reduceEqDiff, true_and, and_true, true_or, or_true, false_or, or_false, forall_const, not_true_eq_false, not_false_eq_true, true_implies, false_implies, implies_true, and_self, zero_ne_one, one_ne_zero, eq_self, reduceIte, s2_X3_readMaking_0, b_X3_readMaking_0, s2_X3_readMaking_13, b_X3_readMaking_13, s2_X3_readMaking_19, b_X3_readMaking_19, s2_X3_readMaking_21, b_X3_readMaking_21, s2_X3_readMaking_100, b_X3_readMaking_100, s2_X3_readMaking_108, b_X3_readMaking_108, s2_X3_readMaking_115, b_X3_readMaking_115, s2_X3_readMaking_124, b_X3_readMaking_124, s2_X3_readMaking_132, b_X3_readMaking_132, s2_X3_readMaking_136, b_X3_readMaking_136, s2_X3_readMaking_137, b_X3_readMaking_137, s2_X3_readMaking_138, b_X3_readMaking_138, s2_X3_readMaking_148, b_X3_readMaking_148, s2_X3_readMaking_156, b_X3_readMaking_156, s2_X3_readMaking_165, b_X3_readMaking_165, s2_X3_readMaking_169, b_X3_readMaking_169, s2_X3_readMaking_170, b_X3_readMaking_170, s2_X3_readMaking_171, b_X3_readMaking_171, s2_X3_readMaking_179, b_X3_readMaking_179, s2_X3_readMaking_188, b_X3_readMaking_188, s2_X3_readMaking_192, b_X3_readMaking_192, s2_X3_readMaking_193, b_X3_readMaking_193, s2_X3_readMaking_194, b_X3_readMaking_194, s2_X3_readMaking_201, b_X3_readMaking_201, g_X3_14, G_X3_readMaking_47, sp_X8_look_e, G_X3_readMaking_57, sp_X8_step_e, G_X3_readMaking_76, sp_X4_begin_e, G_X3_readMaking_81, sp_X3_readNumber_e, G_X3_readMaking_85, sp_X3_readNames_e, G_X3_readMaking_89, sp_X3_readSigned_e, G_X3_readMaking_92, sp_X3_readHow_e]
  refine ⟨h0, hr, T, L, E, p, hat, fun ok hE => ?_, fun nok => ?_⟩
  · have e : m_sN T L 0 3 (0, p) = (0, p + 1) := c_ms_t ok
    rw [e, q_bt rfl] at hk
    refine hk _ (c_mf_st hr (c_mf_up hm)) (c_at_st hE (c_at_up hr hat)) (fun _ => ⟨?_, ?_, fun q => q.elim, ?_, fun k hk => by omega⟩)
    · rw [u_app, if_neg (by omega), u_app, if_neg (by omega)]
      exact h2
    · rw [u_app, if_neg (by omega), u_app, if_pos ⟨rfl, rfl⟩]
    · rw [u_app, if_neg (by omega), u_app, if_neg (by omega)]
      exact h1
  · have e : m_sN T L 0 3 (0, p) = (1, p) := c_ms_f nok
    rw [e, q_bf c_z1] at hk
    exact hk ν hm hat (fun q => absurd q c_z1)
theorem rm_nm {μ ν : QM} {K : Int × Nat → QM → Prop} {r P : Int} {nm : Int → Int} {T : Int → Int} {L : Int} {E p nn : Nat} (hr : q_rc r) (hn : c_nm P nm μ) (hm : c_mf μ r ν) (hat : c_at T L E p ν) (h3 : nn ≤ 3) (hk : ∀ ν' : QM, (∀ j : Int, ¬ j = 1 → ν' r j = ν r j) → c_mf μ r ν' → c_at T L E (c_sn T L nm nn (0, p)).2 ν' → ((c_sn T L nm nn (0, p)).1 = 0 → ν' r 1 = nn ∧ ∀ k : Nat, k < nn → ν' (r + 10) k = nm (m_cd T L (c_sn T L nm k (0, p)).2)) → K (c_sn T L nm nn (0, p)) ν') : ∃ (P : Int) (nm : Int → Int) (n2 : Nat) (T : Int → Int) (L : Int) (E i : Nat), c_nm P nm ν ∧ (nn : Int) = n2 ∧ n2 ≤ 3 ∧ c_at T L E i ν ∧ ∀ ν' : QM, c_rf ν r ν' → c_at T L E (c_sn T L nm n2 (0, i)).2 ν' → ((c_sn T L nm n2 (0, i)).1 = 0 → ν' r 1 = n2 ∧ ∀ k : Nat, k < n2 → ν' (r + 10) k = nm (m_cd T L (c_sn T L nm k (0, i)).2)) → K (c_sn T L nm n2 (0, i)) ν' := by
  refine ⟨P, nm, nn, T, L, E, p, c_nm_mf hr hn hm, rfl, h3, hat, fun ν' f q1 q2 => hk ν' (fun j n => f.1 r j (by omega) (by omega) (by omega)) (c_mf_rf hm f) q1 q2⟩
theorem rm_K {Rt : Option QV → QM → Prop} {s : Int} {ν : QM} (h : Rt (some (.inl (q_b (s = 0)))) ν) : (¬ s = 0 → Rt (some (.inl 0)) ν) ∧ (¬ ¬ s = 0 → Rt (some (.inl 1)) ν) := by
  refine ⟨fun c => ?_, fun c => ?_⟩
  · rw [q_bf c] at h
    exact h
  · rw [q_bt (Classical.not_not.mp c)] at h
    exact h
theorem rm_201 {Rt : Option QV → QM → Prop} {S : Nat → QL → List QV → QM → Prop} (hR : q_Rule cX3_readMaking 3 u_X3_readMaking fl_X3 ld_X3 G_X3_readMaking q_T 1 s2_X3_readMaking Rt S) {μ ν : QM} {r P kd : Int} {nm : Int → Int} {T : Int → Int} {L : Int} {E p : Nat} (hr : q_rc r) (hn : c_nm P nm μ) (hm : c_mf μ r ν) (hat : c_at T L E p ν) (h1 : ν r 1 = 0) (h2 : ν r 2 = kd) (h4 : ν r 4 = 0) (hkd : ¬ kd = 0 ∧ ¬ kd = 8 ∧ ¬ kd = 9 ∧ ¬ kd = 10 ∧ ¬ kd = 11 ∧ ¬ kd = 12) (hk : ∀ ν' : QM, c_mf μ r ν' → c_at T L E (m_mk T L nm kd (0, p)).1.2 ν' → ((m_mk T L nm kd (0, p)).1.1 = 0 → c_rk T L nm kd p r ν') → Rt (some (.inl (q_b ((m_mk T L nm kd (0, p)).1.1 = 0)))) ν') : S 201 [some (.inr (.inr 15)), some (.inr (.inr r)), some (.inl kd)] [] ν := by
  have h0 : 0 ≤ r := by omega
  obtain ⟨k0, k8, k9, k10, k11, k12⟩ := hkd
  unfold c_rk m_mk m_mn at hk
  simp only [k0, k8, k9, k10, k11, k12, if_false, or_self] at hk
  refine hR 40 b_X3_readMaking_201 201 _ _ _ o2_X3_readMaking_201 ?_
  simp only [v_opt_n, v_opt_s, v_nil, v_iconst, v_bipush, v_sipush, v_lconst0, v_lconst1, v_ldc, v_ldcw, v_ldc2, v_iload0, v_iload1, v_iload2, v_iload3, v_iload, v_lload0, v_lload1, v_lload2, v_lload3, v_lload, v_aload0, v_aload1, v_aload2, v_aload3, v_aload, v_istore0, v_istore1, v_istore2, v_istore3, v_istore, v_lstore0, v_lstore1, v_lstore2, v_lstore3, v_lstore, v_astore0, v_astore1, v_astore2, v_astore3, v_astore, v_iinc, v_iadd, v_isub, v_imul, v_iand, v_ior, v_ixor, v_ishl, v_ishr, v_iushr, v_ineg, v_idiv, v_irem, v_ladd, v_lsub, v_lmul, v_lcmp, v_i2l, v_l2i, v_i2c, v_dup, v_dup2, v_if_eq, v_if_ne, v_if_lt, v_if_ge, v_if_gt, v_if_le, v_ic_eq, v_ic_ne, v_ic_lt, v_ic_ge, v_ic_gt, v_ic_le, v_goto, v_tsw, v_lsw, v_ireturn, v_areturn, v_return, v_iaload, v_laload, v_baload, v_caload, v_aaload, v_iastore, v_lastore, v_bastore, v_castore, v_alen, v_invvi, v_invst, v_invsp, e_int, e_lng, e_ref, e_lg0, e_lg1, e_lg2, e_lg3, e_lg4, e_lg5, e_lg6, e_lg7, e_lg8, e_lg9, e_lg10, e_lg11, e_lg12, e_lg13, e_clrI, e_clrJ, e_clrP, e_clrN, e_s0, e_s1, e_s2, e_s3, e_s4, e_s5, e_s6, e_s7, e_s8, e_s9, e_s10, e_s11, e_s12, e_s13, e_t0, e_t1, e_t2, e_t3, e_t4, e_t5, e_t6, e_t7, e_t8, e_t9, e_t10, e_t11, e_t12, e_t13, e_fd, e_kk, e_k0, e_k1, e_k2, e_k3, e_k4, e_k5, e_k6, e_k7, e_k8, e_k9, e_sv0, e_sv1, e_sv2, e_sv3, e_svc, e_pf0, e_pf1, e_pf2, e_pf3, e_ar, e_aa, e_al, e_sw1, e_sw2, e_ct0, e_ct1, e_ct2, e_cat0, e_cat1, e_rk0, e_rk1, e_rk2, e_inv0, e_inv1, e_inv2, e_inv3, e_inv4, e_inv5, e_inv6, e_o0, e_o1, e_cl, e_cle, e_cg, e_cge, e_ce, e_cr1, e_cr2, e_r, e_R, e_up, Int.cast_ofNat_Int, u_app, false_and, and_false, e_b0, e_b1, e_bn, e_bl, e_bu, Int.reduceLE, Int.reduceLT, Int.reduceEq, Int.reduceNeg, Int.reduceAdd, Int.reduceSub, Int.reduceMul, Nat.reduceLeDiff, Nat.reduceLT, Nat.reduceAdd, Nat.reduceEqDiff, true_and, and_true, true_or, or_true, false_or, or_false, forall_const, not_true_eq_false, not_false_eq_true, true_implies, false_implies, implies_true, and_self, zero_ne_one, one_ne_zero, eq_self, reduceIte, s2_X3_readMaking_0, b_X3_readMaking_0, s2_X3_readMaking_13, b_X3_readMaking_13, s2_X3_readMaking_19, b_X3_readMaking_19, s2_X3_readMaking_21, b_X3_readMaking_21, s2_X3_readMaking_100, b_X3_readMaking_100, s2_X3_readMaking_108, b_X3_readMaking_108, s2_X3_readMaking_115, b_X3_readMaking_115, s2_X3_readMaking_124, b_X3_readMaking_124, s2_X3_readMaking_132, b_X3_readMaking_132, s2_X3_readMaking_136, b_X3_readMaking_136, s2_X3_readMaking_137, b_X3_readMaking_137, s2_X3_readMaking_138, b_X3_readMaking_138, s2_X3_readMaking_148, b_X3_readMaking_148, s2_X3_readMaking_156, b_X3_readMaking_156, s2_X3_readMaking_165, b_X3_readMaking_165, s2_X3_readMaking_169, b_X3_readMaking_169, s2_X3_readMaking_170, b_X3_readMaking_170, s2_X3_readMaking_171, b_X3_readMaking_171, s2_X3_readMaking_179, b_X3_readMaking_179, s2_X3_readMaking_188, b_X3_readMaking_188, s2_X3_readMaking_192, b_X3_readMaking_192, s2_X3_readMaking_193, b_X3_readMaking_193, s2_X3_readMaking_194, b_X3_readMaking_194, s2_X3_readMaking_201, b_X3_readMaking_201, g_X3_14, G_X3_readMaking_47, sp_X8_look_e, G_X3_readMaking_57, sp_X8_step_e, G_X3_readMaking_76, sp_X4_begin_e, G_X3_readMaking_81, sp_X3_readNumber_e, G_X3_readMaking_85, sp_X3_readNames_e, G_X3_readMaking_89, sp_X3_readSigned_e, G_X3_readMaking_92, sp_X3_readHow_e]
  refine ⟨h0, hr, h1, rm_nm (K := fun s ν => (¬ s.1 = 0 ∨ s.1 = 0) ∧ Rt (some (.inl (q_b (s.1 = 0)))) ν) (nn := 2) hr hn hm hat (by omega) (fun ν' f q1 q2 q3 => ⟨(Classical.em _).symm, hk ν' q1 q2 (fun z => ⟨?_, ?_, fun q => q.elim, (q3 z).1, fun k hk => ?_⟩)⟩)⟩
  · rw [f 2 (by decide)]
    exact h2
  · rw [f 4 (by decide)]
    exact h4
  · have : k = 0 ∨ k = 1 := by omega
    rcases this with rfl | rfl
    · exact (q3 z).2 0 (by omega)
    · exact (q3 z).2 1 (by omega)
theorem rm_108 {Rt : Option QV → QM → Prop} {S : Nat → QL → List QV → QM → Prop} (hR : q_Rule cX3_readMaking 3 u_X3_readMaking fl_X3 ld_X3 G_X3_readMaking q_T 1 s2_X3_readMaking Rt S) {μ ν : QM} {r P : Int} {nm : Int → Int} {T : Int → Int} {L : Int} {E p : Nat} (hr : q_rc r) (hn : c_nm P nm μ) (hm : c_mf μ r ν) (hat : c_at T L E p ν) (h1 : ν r 1 = 0) (h2 : ν r 2 = 8) (h4 : ν r 4 = 0) (hk : ∀ ν' : QM, c_mf μ r ν' → c_at T L E (m_mk T L nm 8 (0, p)).1.2 ν' → ((m_mk T L nm 8 (0, p)).1.1 = 0 → c_rk T L nm 8 p r ν') → Rt (some (.inl (q_b ((m_mk T L nm 8 (0, p)).1.1 = 0)))) ν') : S 108 [some (.inr (.inr 15)), some (.inr (.inr r)), some (.inl 8)] [] ν := by
  have h0 : 0 ≤ r := by omega
  unfold c_rk m_mk m_mn at hk
  simp only [Int.reduceEq, if_false, if_true, or_self, or_false, or_true, false_or, true_or, forall_const, true_implies] at hk
  refine hR 40 b_X3_readMaking_108 108 _ _ _ o2_X3_readMaking_108 ?_
  simp only [v_opt_n, v_opt_s, v_nil, v_iconst, v_bipush, v_sipush, v_lconst0, v_lconst1, v_ldc, v_ldcw, v_ldc2, v_iload0, v_iload1, v_iload2, v_iload3, v_iload, v_lload0, v_lload1, v_lload2, v_lload3, v_lload, v_aload0, v_aload1, v_aload2, v_aload3, v_aload, v_istore0, v_istore1, v_istore2, v_istore3, v_istore, v_lstore0, v_lstore1, v_lstore2, v_lstore3, v_lstore, v_astore0, v_astore1, v_astore2, v_astore3, v_astore, v_iinc, v_iadd, v_isub, v_imul, v_iand, v_ior, v_ixor, v_ishl, v_ishr, v_iushr, v_ineg, v_idiv, v_irem, v_ladd, v_lsub, v_lmul, v_lcmp, v_i2l, v_l2i, v_i2c, v_dup, v_dup2, v_if_eq, v_if_ne, v_if_lt, v_if_ge, v_if_gt, v_if_le, v_ic_eq, v_ic_ne, v_ic_lt, v_ic_ge, v_ic_gt, v_ic_le, v_goto, v_tsw, v_lsw, v_ireturn, v_areturn, v_return, v_iaload, v_laload, v_baload, v_caload, v_aaload, v_iastore, v_lastore, v_bastore, v_castore, v_alen, v_invvi, v_invst, v_invsp, e_int, e_lng, e_ref, e_lg0, e_lg1, e_lg2, e_lg3, e_lg4, e_lg5, e_lg6, e_lg7, e_lg8, e_lg9, e_lg10, e_lg11, e_lg12, e_lg13, e_clrI, e_clrJ, e_clrP, e_clrN, e_s0, e_s1, e_s2, e_s3, e_s4, e_s5, e_s6, e_s7, e_s8, e_s9, e_s10, e_s11, e_s12, e_s13, e_t0, e_t1, e_t2, e_t3, e_t4, e_t5, e_t6, e_t7, e_t8, e_t9, e_t10, e_t11, e_t12, e_t13, e_fd, e_kk, e_k0, e_k1, e_k2, e_k3, e_k4, e_k5, e_k6, e_k7, e_k8, e_k9, e_sv0, e_sv1, e_sv2, e_sv3, e_svc, e_pf0, e_pf1, e_pf2, e_pf3, e_ar, e_aa, e_al, e_sw1, e_sw2, e_ct0, e_ct1, e_ct2, e_cat0, e_cat1, e_rk0, e_rk1, e_rk2, e_inv0, e_inv1, e_inv2, e_inv3, e_inv4, e_inv5, e_inv6, e_o0, e_o1, e_cl, e_cle, e_cg, e_cge, e_ce, e_cr1, e_cr2, e_r, e_R, e_up, Int.cast_ofNat_Int, u_app, false_and, and_false, e_b0, e_b1, e_bn, e_bl, e_bu, Int.reduceLE, Int.reduceLT, Int.reduceEq, Int.reduceNeg, Int.reduceAdd, Int.reduceSub, Int.reduceMul, Nat.reduceLeDiff, Nat.reduceLT, Nat.reduceAdd, Nat.reduceEqDiff, true_and, and_true, true_or, or_true, false_or, or_false, forall_const, not_true_eq_false, not_false_eq_true, true_implies, false_implies, implies_true, and_self, zero_ne_one, one_ne_zero, eq_self, reduceIte, s2_X3_readMaking_0, b_X3_readMaking_0, s2_X3_readMaking_13, b_X3_readMaking_13, s2_X3_readMaking_19, b_X3_readMaking_19, s2_X3_readMaking_21, b_X3_readMaking_21, s2_X3_readMaking_100, b_X3_readMaking_100, s2_X3_readMaking_108, b_X3_readMaking_108, s2_X3_readMaking_115, b_X3_readMaking_115, s2_X3_readMaking_124, b_X3_readMaking_124, s2_X3_readMaking_132, b_X3_readMaking_132, s2_X3_readMaking_136, b_X3_readMaking_136, s2_X3_readMaking_137, b_X3_readMaking_137, s2_X3_readMaking_138, b_X3_readMaking_138, s2_X3_readMaking_148, b_X3_readMaking_148, s2_X3_readMaking_156, b_X3_readMaking_156, s2_X3_readMaking_165, b_X3_readMaking_165, s2_X3_readMaking_169, b_X3_readMaking_169, s2_X3_readMaking_170, b_X3_readMaking_170, s2_X3_readMaking_171, b_X3_readMaking_171, s2_X3_readMaking_179, b_X3_readMaking_179, s2_X3_readMaking_188, b_X3_readMaking_188, s2_X3_readMaking_192, b_X3_readMaking_192, s2_X3_readMaking_193, b_X3_readMaking_193, s2_X3_readMaking_194, b_X3_readMaking_194, s2_X3_readMaking_201, b_X3_readMaking_201, g_X3_14, G_X3_readMaking_47, sp_X8_look_e, G_X3_readMaking_57, sp_X8_step_e, G_X3_readMaking_76, sp_X4_begin_e, G_X3_readMaking_81, sp_X3_readNumber_e, G_X3_readMaking_85, sp_X3_readNames_e, G_X3_readMaking_89, sp_X3_readSigned_e, G_X3_readMaking_92, sp_X3_readHow_e]
  refine ⟨h0, hr, h1, rm_nm (K := fun s ν => (¬ s.1 = 0 ∨ s.1 = 0) ∧ Rt (some (.inl (q_b (s.1 = 0)))) ν) (nn := 3) hr hn hm hat (by omega) (fun ν' f q1 q2 q3 => ⟨(Classical.em _).symm, hk ν' q1 q2 (fun z => ⟨?_, ?_, fun q => q.elim, (q3 z).1, fun k hk => ?_⟩)⟩)⟩
  · rw [f 2 (by decide)]
    exact h2
  · rw [f 4 (by decide)]
    exact h4
  · have : k = 0 ∨ k = 1 ∨ k = 2 := by omega
    rcases this with rfl | rfl | rfl
    · exact (q3 z).2 0 (by omega)
    · exact (q3 z).2 1 (by omega)
    · exact (q3 z).2 2 (by omega)
theorem rm_194 {Rt : Option QV → QM → Prop} {S : Nat → QL → List QV → QM → Prop} (hR : q_Rule cX3_readMaking 3 u_X3_readMaking fl_X3 ld_X3 G_X3_readMaking q_T 1 s2_X3_readMaking Rt S) {μ ν : QM} {r P : Int} {nm : Int → Int} {T : Int → Int} {L : Int} {E p : Nat} (hr : q_rc r) (hn : c_nm P nm μ) (hm : c_mf μ r ν) (hat : c_at T L E p ν) (h1 : ν r 1 = 0) (h2 : ν r 2 = 12) (h4 : ν r 4 = 0) (hk : ∀ ν' : QM, c_mf μ r ν' → c_at T L E (m_mk T L nm 12 (0, p)).1.2 ν' → ((m_mk T L nm 12 (0, p)).1.1 = 0 → c_rk T L nm 12 p r ν') → Rt (some (.inl (q_b ((m_mk T L nm 12 (0, p)).1.1 = 0)))) ν') : S 194 [some (.inr (.inr 15)), some (.inr (.inr r)), some (.inl 12)] [] ν := by
  have h0 : 0 ≤ r := by omega
  unfold c_rk m_mk m_mn at hk
  simp only [Int.reduceEq, if_false, if_true, or_self, or_false, or_true, false_or, true_or, forall_const, true_implies] at hk
  refine hR 40 b_X3_readMaking_194 194 _ _ _ o2_X3_readMaking_194 ?_
  simp only [v_opt_n, v_opt_s, v_nil, v_iconst, v_bipush, v_sipush, v_lconst0, v_lconst1, v_ldc, v_ldcw, v_ldc2, v_iload0, v_iload1, v_iload2, v_iload3, v_iload, v_lload0, v_lload1, v_lload2, v_lload3, v_lload, v_aload0, v_aload1, v_aload2, v_aload3, v_aload, v_istore0, v_istore1, v_istore2, v_istore3, v_istore, v_lstore0, v_lstore1, v_lstore2, v_lstore3, v_lstore, v_astore0, v_astore1, v_astore2, v_astore3, v_astore, v_iinc, v_iadd, v_isub, v_imul, v_iand, v_ior, v_ixor, v_ishl, v_ishr, v_iushr, v_ineg, v_idiv, v_irem, v_ladd, v_lsub, v_lmul, v_lcmp, v_i2l, v_l2i, v_i2c, v_dup, v_dup2, v_if_eq, v_if_ne, v_if_lt, v_if_ge, v_if_gt, v_if_le, v_ic_eq, v_ic_ne, v_ic_lt, v_ic_ge, v_ic_gt, v_ic_le, v_goto, v_tsw, v_lsw, v_ireturn, v_areturn, v_return, v_iaload, v_laload, v_baload, v_caload, v_aaload, v_iastore, v_lastore, v_bastore, v_castore, v_alen, v_invvi, v_invst, v_invsp, e_int, e_lng, e_ref, e_lg0, e_lg1, e_lg2, e_lg3, e_lg4, e_lg5, e_lg6, e_lg7, e_lg8, e_lg9, e_lg10, e_lg11, e_lg12, e_lg13, e_clrI, e_clrJ, e_clrP, e_clrN, e_s0, e_s1, e_s2, e_s3, e_s4, e_s5, e_s6, e_s7, e_s8, e_s9, e_s10, e_s11, e_s12, e_s13, e_t0, e_t1, e_t2, e_t3, e_t4, e_t5, e_t6, e_t7, e_t8, e_t9, e_t10, e_t11, e_t12, e_t13, e_fd, e_kk, e_k0, e_k1, e_k2, e_k3, e_k4, e_k5, e_k6, e_k7, e_k8, e_k9, e_sv0, e_sv1, e_sv2, e_sv3, e_svc, e_pf0, e_pf1, e_pf2, e_pf3, e_ar, e_aa, e_al, e_sw1, e_sw2, e_ct0, e_ct1, e_ct2, e_cat0, e_cat1, e_rk0, e_rk1, e_rk2, e_inv0, e_inv1, e_inv2, e_inv3, e_inv4, e_inv5, e_inv6, e_o0, e_o1, e_cl, e_cle, e_cg, e_cge, e_ce, e_cr1, e_cr2, e_r, e_R, e_up, Int.cast_ofNat_Int, u_app, false_and, and_false, e_b0, e_b1, e_bn, e_bl, e_bu, Int.reduceLE, Int.reduceLT, Int.reduceEq, Int.reduceNeg, Int.reduceAdd, Int.reduceSub, Int.reduceMul, Nat.reduceLeDiff, Nat.reduceLT, Nat.reduceAdd, Nat.reduceEqDiff, true_and, and_true, true_or, or_true, false_or, or_false, forall_const, not_true_eq_false, not_false_eq_true, true_implies, false_implies, implies_true, and_self, zero_ne_one, one_ne_zero, eq_self, reduceIte, s2_X3_readMaking_0, b_X3_readMaking_0, s2_X3_readMaking_13, b_X3_readMaking_13, s2_X3_readMaking_19, b_X3_readMaking_19, s2_X3_readMaking_21, b_X3_readMaking_21, s2_X3_readMaking_100, b_X3_readMaking_100, s2_X3_readMaking_108, b_X3_readMaking_108, s2_X3_readMaking_115, b_X3_readMaking_115, s2_X3_readMaking_124, b_X3_readMaking_124, s2_X3_readMaking_132, b_X3_readMaking_132, s2_X3_readMaking_136, b_X3_readMaking_136, s2_X3_readMaking_137, b_X3_readMaking_137, s2_X3_readMaking_138, b_X3_readMaking_138, s2_X3_readMaking_148, b_X3_readMaking_148, s2_X3_readMaking_156, b_X3_readMaking_156, s2_X3_readMaking_165, b_X3_readMaking_165, s2_X3_readMaking_169, b_X3_readMaking_169, s2_X3_readMaking_170, b_X3_readMaking_170, s2_X3_readMaking_171, b_X3_readMaking_171, s2_X3_readMaking_179, b_X3_readMaking_179, s2_X3_readMaking_188, b_X3_readMaking_188, s2_X3_readMaking_192, b_X3_readMaking_192, s2_X3_readMaking_193, b_X3_readMaking_193, s2_X3_readMaking_194, b_X3_readMaking_194, s2_X3_readMaking_201, b_X3_readMaking_201, g_X3_14, G_X3_readMaking_47, sp_X8_look_e, G_X3_readMaking_57, sp_X8_step_e, G_X3_readMaking_76, sp_X4_begin_e, G_X3_readMaking_81, sp_X3_readNumber_e, G_X3_readMaking_85, sp_X3_readNames_e, G_X3_readMaking_89, sp_X3_readSigned_e, G_X3_readMaking_92, sp_X3_readHow_e]
  refine ⟨h0, hr, h1, rm_nm (K := fun s ν => (¬ s.1 = 0 ∨ s.1 = 0) ∧ Rt (some (.inl (q_b (s.1 = 0)))) ν) (nn := 1) hr hn hm hat (by omega) (fun ν' f q1 q2 q3 => ⟨(Classical.em _).symm, hk ν' q1 q2 (fun z => ⟨?_, ?_, fun q => q.elim, (q3 z).1, fun k hk => ?_⟩)⟩)⟩
  · rw [f 2 (by decide)]
    exact h2
  · rw [f 4 (by decide)]
    exact h4
  · obtain rfl : k = 0 := by omega
    exact (q3 z).2 0 (by omega)
theorem rm_171 {Rt : Option QV → QM → Prop} {S : Nat → QL → List QV → QM → Prop} (hR : q_Rule cX3_readMaking 3 u_X3_readMaking fl_X3 ld_X3 G_X3_readMaking q_T 1 s2_X3_readMaking Rt S) {μ ν : QM} {r P : Int} {nm : Int → Int} {T : Int → Int} {L : Int} {E p : Nat} (hr : q_rc r) (hn : c_nm P nm μ) (hm : c_mf μ r ν) (hat : c_at T L E p ν) (h1 : ν r 1 = 0) (h2 : ν r 2 = 11) (h4 : ν r 4 = 0) (hk : ∀ ν' : QM, c_mf μ r ν' → c_at T L E (m_mk T L nm 11 (0, p)).1.2 ν' → ((m_mk T L nm 11 (0, p)).1.1 = 0 → c_rk T L nm 11 p r ν') → Rt (some (.inl (q_b ((m_mk T L nm 11 (0, p)).1.1 = 0)))) ν') : S 171 [some (.inr (.inr 15)), some (.inr (.inr r)), some (.inl 11)] [] ν := by
  have h0 : 0 ≤ r := by omega
  unfold c_rk m_mk m_mn at hk
  simp only [Int.reduceEq, if_false, if_true, or_self, or_false, or_true, false_or, true_or, forall_const, true_implies] at hk
  refine hR 40 b_X3_readMaking_171 171 _ _ _ o2_X3_readMaking_171 ?_
  simp only [v_opt_n, v_opt_s, v_nil, v_iconst, v_bipush, v_sipush, v_lconst0, v_lconst1, v_ldc, v_ldcw, v_ldc2, v_iload0, v_iload1, v_iload2, v_iload3, v_iload, v_lload0, v_lload1, v_lload2, v_lload3, v_lload, v_aload0, v_aload1, v_aload2, v_aload3, v_aload, v_istore0, v_istore1, v_istore2, v_istore3, v_istore, v_lstore0, v_lstore1, v_lstore2, v_lstore3, v_lstore, v_astore0, v_astore1, v_astore2, v_astore3, v_astore, v_iinc, v_iadd, v_isub, v_imul, v_iand, v_ior, v_ixor, v_ishl, v_ishr, v_iushr, v_ineg, v_idiv, v_irem, v_ladd, v_lsub, v_lmul, v_lcmp, v_i2l, v_l2i, v_i2c, v_dup, v_dup2, v_if_eq, v_if_ne, v_if_lt, v_if_ge, v_if_gt, v_if_le, v_ic_eq, v_ic_ne, v_ic_lt, v_ic_ge, v_ic_gt, v_ic_le, v_goto, v_tsw, v_lsw, v_ireturn, v_areturn, v_return, v_iaload, v_laload, v_baload, v_caload, v_aaload, v_iastore, v_lastore, v_bastore, v_castore, v_alen, v_invvi, v_invst, v_invsp, e_int, e_lng, e_ref, e_lg0, e_lg1, e_lg2, e_lg3, e_lg4, e_lg5, e_lg6, e_lg7, e_lg8, e_lg9, e_lg10, e_lg11, e_lg12, e_lg13, e_clrI, e_clrJ, e_clrP, e_clrN, e_s0, e_s1, e_s2, e_s3, e_s4, e_s5, e_s6, e_s7, e_s8, e_s9, e_s10, e_s11, e_s12, e_s13, e_t0, e_t1, e_t2, e_t3, e_t4, e_t5, e_t6, e_t7, e_t8, e_t9, e_t10, e_t11, e_t12, e_t13, e_fd, e_kk, e_k0, e_k1, e_k2, e_k3, e_k4, e_k5, e_k6, e_k7, e_k8, e_k9, e_sv0, e_sv1, e_sv2, e_sv3, e_svc, e_pf0, e_pf1, e_pf2, e_pf3, e_ar, e_aa, e_al, e_sw1, e_sw2, e_ct0, e_ct1, e_ct2, e_cat0, e_cat1, e_rk0, e_rk1, e_rk2, e_inv0, e_inv1, e_inv2, e_inv3, e_inv4, e_inv5, e_inv6, e_o0, e_o1, e_cl, e_cle, e_cg, e_cge, e_ce, e_cr1, e_cr2, e_r, e_R, e_up, Int.cast_ofNat_Int, u_app, false_and, and_false, e_b0, e_b1, e_bn, e_bl, e_bu, Int.reduceLE, Int.reduceLT, Int.reduceEq, Int.reduceNeg, Int.reduceAdd, Int.reduceSub, Int.reduceMul, Nat.reduceLeDiff, Nat.reduceLT, Nat.reduceAdd, Nat.reduceEqDiff, true_and, and_true, true_or, or_true, false_or, or_false, forall_const, not_true_eq_false, not_false_eq_true, true_implies, false_implies, implies_true, and_self, zero_ne_one, one_ne_zero, eq_self, reduceIte, s2_X3_readMaking_0, b_X3_readMaking_0, s2_X3_readMaking_13, b_X3_readMaking_13, s2_X3_readMaking_19, b_X3_readMaking_19, s2_X3_readMaking_21, b_X3_readMaking_21, s2_X3_readMaking_100, b_X3_readMaking_100, s2_X3_readMaking_108, b_X3_readMaking_108, s2_X3_readMaking_115, b_X3_readMaking_115, s2_X3_readMaking_124, b_X3_readMaking_124, s2_X3_readMaking_132, b_X3_readMaking_132, s2_X3_readMaking_136, b_X3_readMaking_136, s2_X3_readMaking_137, b_X3_readMaking_137, s2_X3_readMaking_138, b_X3_readMaking_138, s2_X3_readMaking_148, b_X3_readMaking_148, s2_X3_readMaking_156, b_X3_readMaking_156, s2_X3_readMaking_165, b_X3_readMaking_165, s2_X3_readMaking_169, b_X3_readMaking_169, s2_X3_readMaking_170, b_X3_readMaking_170, s2_X3_readMaking_171, b_X3_readMaking_171, s2_X3_readMaking_179, b_X3_readMaking_179, s2_X3_readMaking_188, b_X3_readMaking_188, s2_X3_readMaking_192, b_X3_readMaking_192, s2_X3_readMaking_193, b_X3_readMaking_193, s2_X3_readMaking_194, b_X3_readMaking_194, s2_X3_readMaking_201, b_X3_readMaking_201, g_X3_14, G_X3_readMaking_47, sp_X8_look_e, G_X3_readMaking_57, sp_X8_step_e, G_X3_readMaking_76, sp_X4_begin_e, G_X3_readMaking_81, sp_X3_readNumber_e, G_X3_readMaking_85, sp_X3_readNames_e, G_X3_readMaking_89, sp_X3_readSigned_e, G_X3_readMaking_92, sp_X3_readHow_e]
  refine ⟨h0, hr, T, L, E, p, hat, fun ok hE => ⟨h0, hr, h1, ?_⟩, fun nok => ?_⟩
  · have e : m_sH T L (0, p) = (0, p + 1) := c_ms_t ok
    rw [e] at hk
    refine rm_nm (K := fun s ν => (¬ s.1 = 0 → Rt (some (.inl 0)) ν) ∧ (¬ ¬ s.1 = 0 → Rt (some (.inl 1)) ν)) (nn := 2) hr hn (c_mf_st hr (c_mf_up hm)) (c_at_st hE (c_at_up hr hat)) (by omega) (fun ν' f q1 q2 q3 => rm_K (hk ν' q1 q2 (fun z => ⟨?_, ?_, ?_, (q3 z).1, fun k hk => ?_⟩)))
    · rw [f 2 (by decide), u_app, if_neg (by omega), u_app, if_neg (by omega)]
      exact h2
    · rw [f 4 (by decide), u_app, if_neg (by omega), u_app, if_neg (by omega)]
      exact h4
    · rw [f 3 (by decide), u_app, if_neg (by omega), u_app, if_pos ⟨rfl, rfl⟩]
    · have : k = 0 ∨ k = 1 := by omega
      rcases this with rfl | rfl
      · exact (q3 z).2 0 (by omega)
      · exact (q3 z).2 1 (by omega)
  · have e : m_sH T L (0, p) = (1, p) := c_ms_f (fun q => q nok)
    have e2 : m_sM T L nm (1, p) = (1, p) := c_sM_1 rfl
    rw [e, e2, e2, q_bf c_z1] at hk
    exact hk ν hm hat (fun q => absurd q c_z1)
theorem rm_115 {Rt : Option QV → QM → Prop} {S : Nat → QL → List QV → QM → Prop} (hR : q_Rule cX3_readMaking 3 u_X3_readMaking fl_X3 ld_X3 G_X3_readMaking q_T 1 s2_X3_readMaking Rt S) {μ ν : QM} {r P : Int} {nm : Int → Int} {T : Int → Int} {L : Int} {E p : Nat} (hr : q_rc r) (hn : c_nm P nm μ) (hm : c_mf μ r ν) (hat : c_at T L E p ν) (h1 : ν r 1 = 0) (h2 : ν r 2 = 9) (h4 : ν r 4 = 0) (hk : ∀ ν' : QM, c_mf μ r ν' → c_at T L E (m_mk T L nm 9 (0, p)).1.2 ν' → ((m_mk T L nm 9 (0, p)).1.1 = 0 → c_rk T L nm 9 p r ν') → Rt (some (.inl (q_b ((m_mk T L nm 9 (0, p)).1.1 = 0)))) ν') : S 115 [some (.inr (.inr 15)), some (.inr (.inr r)), some (.inl 9)] [] ν := by
  have h0 : 0 ≤ r := by omega
  unfold c_rk m_mk m_mn at hk
  simp only [Int.reduceEq, if_false, if_true, or_self, or_false, or_true, false_or, true_or, forall_const, true_implies] at hk
  refine hR 40 b_X3_readMaking_115 115 _ _ _ o2_X3_readMaking_115 ?_
  simp only [v_opt_n, v_opt_s, v_nil, v_iconst, v_bipush, v_sipush, v_lconst0, v_lconst1, v_ldc, v_ldcw, v_ldc2, v_iload0, v_iload1, v_iload2, v_iload3, v_iload, v_lload0, v_lload1, v_lload2, v_lload3, v_lload, v_aload0, v_aload1, v_aload2, v_aload3, v_aload, v_istore0, v_istore1, v_istore2, v_istore3, v_istore, v_lstore0, v_lstore1, v_lstore2, v_lstore3, v_lstore, v_astore0, v_astore1, v_astore2, v_astore3, v_astore, v_iinc, v_iadd, v_isub, v_imul, v_iand, v_ior, v_ixor, v_ishl, v_ishr, v_iushr, v_ineg, v_idiv, v_irem, v_ladd, v_lsub, v_lmul, v_lcmp, v_i2l, v_l2i, v_i2c, v_dup, v_dup2, v_if_eq, v_if_ne, v_if_lt, v_if_ge, v_if_gt, v_if_le, v_ic_eq, v_ic_ne, v_ic_lt, v_ic_ge, v_ic_gt, v_ic_le, v_goto, v_tsw, v_lsw, v_ireturn, v_areturn, v_return, v_iaload, v_laload, v_baload, v_caload, v_aaload, v_iastore, v_lastore, v_bastore, v_castore, v_alen, v_invvi, v_invst, v_invsp, e_int, e_lng, e_ref, e_lg0, e_lg1, e_lg2, e_lg3, e_lg4, e_lg5, e_lg6, e_lg7, e_lg8, e_lg9, e_lg10, e_lg11, e_lg12, e_lg13, e_clrI, e_clrJ, e_clrP, e_clrN, e_s0, e_s1, e_s2, e_s3, e_s4, e_s5, e_s6, e_s7, e_s8, e_s9, e_s10, e_s11, e_s12, e_s13, e_t0, e_t1, e_t2, e_t3, e_t4, e_t5, e_t6, e_t7, e_t8, e_t9, e_t10, e_t11, e_t12, e_t13, e_fd, e_kk, e_k0, e_k1, e_k2, e_k3, e_k4, e_k5, e_k6, e_k7, e_k8, e_k9, e_sv0, e_sv1, e_sv2, e_sv3, e_svc, e_pf0, e_pf1, e_pf2, e_pf3, e_ar, e_aa, e_al, e_sw1, e_sw2, e_ct0, e_ct1, e_ct2, e_cat0, e_cat1, e_rk0, e_rk1, e_rk2, e_inv0, e_inv1, e_inv2, e_inv3, e_inv4, e_inv5, e_inv6, e_o0, e_o1, e_cl, e_cle, e_cg, e_cge, e_ce, e_cr1, e_cr2, e_r, e_R, e_up, Int.cast_ofNat_Int, u_app, false_and, and_false, e_b0, e_b1, e_bn, e_bl, e_bu, Int.reduceLE, Int.reduceLT, Int.reduceEq, Int.reduceNeg, Int.reduceAdd, Int.reduceSub, Int.reduceMul, Nat.reduceLeDiff, Nat.reduceLT, Nat.reduceAdd, Nat.reduceEqDiff, true_and, and_true, true_or, or_true, false_or, or_false, forall_const, not_true_eq_false, not_false_eq_true, true_implies, false_implies, implies_true, and_self, zero_ne_one, one_ne_zero, eq_self, reduceIte, s2_X3_readMaking_0, b_X3_readMaking_0, s2_X3_readMaking_13, b_X3_readMaking_13, s2_X3_readMaking_19, b_X3_readMaking_19, s2_X3_readMaking_21, b_X3_readMaking_21, s2_X3_readMaking_100, b_X3_readMaking_100, s2_X3_readMaking_108, b_X3_readMaking_108, s2_X3_readMaking_115, b_X3_readMaking_115, s2_X3_readMaking_124, b_X3_readMaking_124, s2_X3_readMaking_132, b_X3_readMaking_132, s2_X3_readMaking_136, b_X3_readMaking_136, s2_X3_readMaking_137, b_X3_readMaking_137, s2_X3_readMaking_138, b_X3_readMaking_138, s2_X3_readMaking_148, b_X3_readMaking_148, s2_X3_readMaking_156, b_X3_readMaking_156, s2_X3_readMaking_165, b_X3_readMaking_165, s2_X3_readMaking_169, b_X3_readMaking_169, s2_X3_readMaking_170, b_X3_readMaking_170, s2_X3_readMaking_171, b_X3_readMaking_171, s2_X3_readMaking_179, b_X3_readMaking_179, s2_X3_readMaking_188, b_X3_readMaking_188, s2_X3_readMaking_192, b_X3_readMaking_192, s2_X3_readMaking_193, b_X3_readMaking_193, s2_X3_readMaking_194, b_X3_readMaking_194, s2_X3_readMaking_201, b_X3_readMaking_201, g_X3_14, G_X3_readMaking_47, sp_X8_look_e, G_X3_readMaking_57, sp_X8_step_e, G_X3_readMaking_76, sp_X4_begin_e, G_X3_readMaking_81, sp_X3_readNumber_e, G_X3_readMaking_85, sp_X3_readNames_e, G_X3_readMaking_89, sp_X3_readSigned_e, G_X3_readMaking_92, sp_X3_readHow_e]
  refine ⟨h0, hr, h1, rm_nm (K := fun s ν1 => (¬ s.1 = 0 → Rt (some (.inl 0)) ν1) ∧ (¬ ¬ s.1 = 0 → 0 ≤ r ∧ q_rc r ∧ ∃ (T : Int → Int) (L : Int) (E i : Nat), c_at T L E i ν1 ∧ ∀ ν : QM, (∀ a j : Int, ¬ (a = 16 ∧ j = 5) → ¬ (a = r ∧ j = 4) → ν a j = ν1 a j) → c_at T L E (m_sN T L 0 1000000 (m_sG T L (0, i))).2 ν → ((m_sN T L 0 1000000 (m_sG T L (0, i))).1 = 0 → ν r 4 = (if m_isg T L 45 (0, i) then - m_cd T L (m_sG T L (0, i)).2 else m_cd T L (m_sG T L (0, i)).2)) → (¬ (m_sN T L 0 1000000 (m_sG T L (0, i))).1 = 0 → Rt (some (.inl 0)) ν) ∧ (¬ ¬ (m_sN T L 0 1000000 (m_sG T L (0, i))).1 = 0 → Rt (some (.inl 1)) ν))) (nn := 1) hr hn hm hat (by omega) (fun ν' f q1 q2 q3 => ⟨fun c => ?_, fun c => ?_⟩)⟩
  · have c : ¬ (m_sM T L nm (0, p)).1 = 0 := c
    have q2 : c_at T L E (m_sM T L nm (0, p)).2 ν' := q2
    have h01 : (m_sM T L nm (0, p)).1 = 1 := by
      rcases m_ms_01 (s := (0, p)) (is := q_b (m_kd T L p = 1 ∧ ¬ nm (m_cd T L p) = -1)) (Or.inl rfl) with q | q
      · exact absurd q c
      · exact q
    have e1 : m_sG T L (m_sM T L nm (0, p)) = m_sM T L nm (0, p) := if_neg (fun q => c q.1)
    have e2 : m_sN T L 0 1000000 (m_sM T L nm (0, p)) = m_sM T L nm (0, p) := if_pos h01
    rw [e1, e2, q_bf c] at hk
    exact hk ν' q1 q2 (fun q => absurd q c)
  · have c : (m_sM T L nm (0, p)).1 = 0 := Classical.not_not.mp c
    have es : m_sM T L nm (0, p) = (0, (m_sM T L nm (0, p)).2) := Prod.ext c rfl
    rw [es] at hk
    refine ⟨h0, hr, T, L, E, (m_sM T L nm (0, p)).2, q2, fun ν2 g1 g2 g3 => rm_K (hk ν2 ⟨fun a j n1 n2 n3 => ?_, fun k => ?_⟩ g2 (fun z => ⟨?_, g3 z, fun q => q.elim, ?_, fun k hk => ?_⟩))⟩
    · rw [g1 a j n1 (fun q => n2 q.1)]
      exact q1.1 a j n1 n2 n3
    · rw [g1 (r + 10) k (by omega) (by omega)]
      exact q1.2 k
    · rw [g1 r 2 (by omega) (by omega), f 2 (by decide)]
      exact h2
    · rw [g1 r 1 (by omega) (by omega)]
      exact (q3 c).1
    · obtain rfl : k = 0 := by omega
      rw [g1 (r + 10) _ (by omega) (by omega)]
      exact (q3 c).2 0 (by omega)
theorem rm_138 {Rt : Option QV → QM → Prop} {S : Nat → QL → List QV → QM → Prop} (hR : q_Rule cX3_readMaking 3 u_X3_readMaking fl_X3 ld_X3 G_X3_readMaking q_T 1 s2_X3_readMaking Rt S) {μ ν : QM} {r P : Int} {nm : Int → Int} {T : Int → Int} {L : Int} {E p : Nat} (hr : q_rc r) (hn : c_nm P nm μ) (hm : c_mf μ r ν) (hat : c_at T L E p ν) (h1 : ν r 1 = 0) (h2 : ν r 2 = 10) (h4 : ν r 4 = 0) (hk : ∀ ν' : QM, c_mf μ r ν' → c_at T L E (m_mk T L nm 10 (0, p)).1.2 ν' → ((m_mk T L nm 10 (0, p)).1.1 = 0 → c_rk T L nm 10 p r ν') → Rt (some (.inl (q_b ((m_mk T L nm 10 (0, p)).1.1 = 0)))) ν') : S 138 [some (.inr (.inr 15)), some (.inr (.inr r)), some (.inl 10)] [] ν := by
  have h0 : 0 ≤ r := by omega
  unfold c_rk m_mk m_mn at hk
  simp only [Int.reduceEq, if_false, if_true, or_self, or_false, or_true, false_or, true_or, forall_const, true_implies] at hk
  refine hR 40 b_X3_readMaking_138 138 _ _ _ o2_X3_readMaking_138 ?_
  simp only [v_opt_n, v_opt_s, v_nil, v_iconst, v_bipush, v_sipush, v_lconst0, v_lconst1, v_ldc, v_ldcw, v_ldc2, v_iload0, v_iload1, v_iload2, v_iload3, v_iload, v_lload0, v_lload1, v_lload2, v_lload3, v_lload, v_aload0, v_aload1, v_aload2, v_aload3, v_aload, v_istore0, v_istore1, v_istore2, v_istore3, v_istore, v_lstore0, v_lstore1, v_lstore2, v_lstore3, v_lstore, v_astore0, v_astore1, v_astore2, v_astore3, v_astore, v_iinc, v_iadd, v_isub, v_imul, v_iand, v_ior, v_ixor, v_ishl, v_ishr, v_iushr, v_ineg, v_idiv, v_irem, v_ladd, v_lsub, v_lmul, v_lcmp, v_i2l, v_l2i, v_i2c, v_dup, v_dup2, v_if_eq, v_if_ne, v_if_lt, v_if_ge, v_if_gt, v_if_le, v_ic_eq, v_ic_ne, v_ic_lt, v_ic_ge, v_ic_gt, v_ic_le, v_goto, v_tsw, v_lsw, v_ireturn, v_areturn, v_return, v_iaload, v_laload, v_baload, v_caload, v_aaload, v_iastore, v_lastore, v_bastore, v_castore, v_alen, v_invvi, v_invst, v_invsp, e_int, e_lng, e_ref, e_lg0, e_lg1, e_lg2, e_lg3, e_lg4, e_lg5, e_lg6, e_lg7, e_lg8, e_lg9, e_lg10, e_lg11, e_lg12, e_lg13, e_clrI, e_clrJ, e_clrP, e_clrN, e_s0, e_s1, e_s2, e_s3, e_s4, e_s5, e_s6, e_s7, e_s8, e_s9, e_s10, e_s11, e_s12, e_s13, e_t0, e_t1, e_t2, e_t3, e_t4, e_t5, e_t6, e_t7, e_t8, e_t9, e_t10, e_t11, e_t12, e_t13, e_fd, e_kk, e_k0, e_k1, e_k2, e_k3, e_k4, e_k5, e_k6, e_k7, e_k8, e_k9, e_sv0, e_sv1, e_sv2, e_sv3, e_svc, e_pf0, e_pf1, e_pf2, e_pf3, e_ar, e_aa, e_al, e_sw1, e_sw2, e_ct0, e_ct1, e_ct2, e_cat0, e_cat1, e_rk0, e_rk1, e_rk2, e_inv0, e_inv1, e_inv2, e_inv3, e_inv4, e_inv5, e_inv6, e_o0, e_o1, e_cl, e_cle, e_cg, e_cge, e_ce, e_cr1, e_cr2, e_r, e_R, e_up, Int.cast_ofNat_Int, u_app, false_and, and_false, e_b0, e_b1, e_bn, e_bl, e_bu, Int.reduceLE, Int.reduceLT, Int.reduceEq, Int.reduceNeg, Int.reduceAdd, Int.reduceSub, Int.reduceMul, Nat.reduceLeDiff, Nat.reduceLT, Nat.reduceAdd, Nat.reduceEqDiff, true_and, and_true, true_or, or_true, false_or, or_false, forall_const, not_true_eq_false, not_false_eq_true, true_implies, false_implies, implies_true, and_self, zero_ne_one, one_ne_zero, eq_self, reduceIte, s2_X3_readMaking_0, b_X3_readMaking_0, s2_X3_readMaking_13, b_X3_readMaking_13, s2_X3_readMaking_19, b_X3_readMaking_19, s2_X3_readMaking_21, b_X3_readMaking_21, s2_X3_readMaking_100, b_X3_readMaking_100, s2_X3_readMaking_108, b_X3_readMaking_108, s2_X3_readMaking_115, b_X3_readMaking_115, s2_X3_readMaking_124, b_X3_readMaking_124, s2_X3_readMaking_132, b_X3_readMaking_132, s2_X3_readMaking_136, b_X3_readMaking_136, s2_X3_readMaking_137, b_X3_readMaking_137, s2_X3_readMaking_138, b_X3_readMaking_138, s2_X3_readMaking_148, b_X3_readMaking_148, s2_X3_readMaking_156, b_X3_readMaking_156, s2_X3_readMaking_165, b_X3_readMaking_165, s2_X3_readMaking_169, b_X3_readMaking_169, s2_X3_readMaking_170, b_X3_readMaking_170, s2_X3_readMaking_171, b_X3_readMaking_171, s2_X3_readMaking_179, b_X3_readMaking_179, s2_X3_readMaking_188, b_X3_readMaking_188, s2_X3_readMaking_192, b_X3_readMaking_192, s2_X3_readMaking_193, b_X3_readMaking_193, s2_X3_readMaking_194, b_X3_readMaking_194, s2_X3_readMaking_201, b_X3_readMaking_201, g_X3_14, G_X3_readMaking_47, sp_X8_look_e, G_X3_readMaking_57, sp_X8_step_e, G_X3_readMaking_76, sp_X4_begin_e, G_X3_readMaking_81, sp_X3_readNumber_e, G_X3_readMaking_85, sp_X3_readNames_e, G_X3_readMaking_89, sp_X3_readSigned_e, G_X3_readMaking_92, sp_X3_readHow_e]
  refine ⟨h0, hr, T, L, E, p, hat, fun ok hE => ⟨h0, hr, T, L, E, p + 1, c_at_st hE (c_at_up hr hat), fun ok2 hE2 => ⟨h0, hr, h1, ?_⟩, fun nok2 => ?_⟩, fun nok => ?_⟩
  · have e : m_sN T L 1 3 (0, p) = (0, p + 1) := c_ms_t ok
    have e2 : m_sH T L (0, p + 1) = (0, p + 1 + 1) := c_ms_t ok2
    rw [e, e2] at hk
    refine rm_nm (K := fun s ν => (¬ s.1 = 0 → Rt (some (.inl 0)) ν) ∧ (¬ ¬ s.1 = 0 → Rt (some (.inl 1)) ν)) (nn := 1) hr hn (c_mf_st hr (c_mf_up (c_mf_st hr (c_mf_up hm)))) (c_at_st hE2 (c_at_up hr (c_at_st hE (c_at_up hr hat)))) (by omega) (fun ν' f q1 q2 q3 => rm_K (hk ν' q1 q2 (fun z => ⟨?_, ?_, ?_, (q3 z).1, fun k hk => ?_⟩)))
    · rw [f 2 (by decide), u_app, if_neg (by omega), u_app, if_neg (by omega), u_app, if_neg (by omega), u_app, if_neg (by omega)]
      exact h2
    · rw [f 4 (by decide), u_app, if_neg (by omega), u_app, if_neg (by omega), u_app, if_neg (by omega), u_app, if_pos ⟨rfl, rfl⟩]
    · rw [f 3 (by decide), u_app, if_neg (by omega), u_app, if_pos ⟨rfl, rfl⟩]
    · obtain rfl : k = 0 := by omega
      exact (q3 z).2 0 (by omega)
  · have e : m_sN T L 1 3 (0, p) = (0, p + 1) := c_ms_t ok
    have e2 : m_sH T L (0, p + 1) = (1, p + 1) := c_ms_f (fun q => q nok2)
    have e3 : m_sM T L nm (1, p + 1) = (1, p + 1) := c_sM_1 rfl
    rw [e, e2, e3, q_bf c_z1] at hk
    exact hk _ (c_mf_st hr (c_mf_up hm)) (c_at_st hE (c_at_up hr hat)) (fun q => absurd q c_z1)
  · have e : m_sN T L 1 3 (0, p) = (1, p) := c_ms_f nok
    have e2 : m_sH T L (1, p) = (1, p) := by
      unfold m_sH m_ms
      rw [if_pos rfl]
    have e3 : m_sM T L nm (1, p) = (1, p) := c_sM_1 rfl
    rw [e, e2, e3, q_bf c_z1] at hk
    exact hk ν hm hat (fun q => absurd q c_z1)
set_option maxRecDepth 100000 in
set_option maxRecDepth 100000 in
set_option maxHeartbeats 4000000 in
theorem B_X3_readMaking : q_Body cX3_readMaking 3 u_X3_readMaking fl_X3 ld_X3 G_X3_readMaking q_T 1 s2_X3_readMaking sp_X3_readMaking := by
  intro S Rt hR ra μ h
  obtain ⟨this, recipe, rfl, h⟩ := sp_X3_readMaking_i h
  refine ⟨by simp [q_sl, q_ct], ?_⟩
  show S 0 [some (.inr (.inr this)), some (.inr (.inr recipe)), none] [] μ
  obtain ⟨rfl, hr, P, nm, T, L, E, i, hn, hat, hk⟩ := h
  have hT := T_rec hr
  have h0 : 0 ≤ recipe := by omega
  obtain ⟨r1, r2, r5, r6, r7⟩ := c_at_r hat
  have hb := c_kc_b hat.1 i
  refine hR 40 [] 0 _ _ _ rfl ?_
  simp only [v_opt_n, v_opt_s, v_nil, v_iconst, v_bipush, v_sipush, v_lconst0, v_lconst1, v_ldc, v_ldcw, v_ldc2, v_iload0, v_iload1, v_iload2, v_iload3, v_iload, v_lload0, v_lload1, v_lload2, v_lload3, v_lload, v_aload0, v_aload1, v_aload2, v_aload3, v_aload, v_istore0, v_istore1, v_istore2, v_istore3, v_istore, v_lstore0, v_lstore1, v_lstore2, v_lstore3, v_lstore, v_astore0, v_astore1, v_astore2, v_astore3, v_astore, v_iinc, v_iadd, v_isub, v_imul, v_iand, v_ior, v_ixor, v_ishl, v_ishr, v_iushr, v_ineg, v_idiv, v_irem, v_ladd, v_lsub, v_lmul, v_lcmp, v_i2l, v_l2i, v_i2c, v_dup, v_dup2, v_if_eq, v_if_ne, v_if_lt, v_if_ge, v_if_gt, v_if_le, v_ic_eq, v_ic_ne, v_ic_lt, v_ic_ge, v_ic_gt, v_ic_le, v_goto, v_tsw, v_lsw, v_ireturn, v_areturn, v_return, v_iaload, v_laload, v_baload, v_caload, v_aaload, v_iastore, v_lastore, v_bastore, v_castore, v_alen, v_invvi, v_invst, v_invsp, e_int, e_lng, e_ref, e_lg0, e_lg1, e_lg2, e_lg3, e_lg4, e_lg5, e_lg6, e_lg7, e_lg8, e_lg9, e_lg10, e_lg11, e_lg12, e_lg13, e_clrI, e_clrJ, e_clrP, e_clrN, e_s0, e_s1, e_s2, e_s3, e_s4, e_s5, e_s6, e_s7, e_s8, e_s9, e_s10, e_s11, e_s12, e_s13, e_t0, e_t1, e_t2, e_t3, e_t4, e_t5, e_t6, e_t7, e_t8, e_t9, e_t10, e_t11, e_t12, e_t13, e_fd, e_kk, e_k0, e_k1, e_k2, e_k3, e_k4, e_k5, e_k6, e_k7, e_k8, e_k9, e_sv0, e_sv1, e_sv2, e_sv3, e_svc, e_pf0, e_pf1, e_pf2, e_pf3, e_ar, e_aa, e_al, e_sw1, e_sw2, e_ct0, e_ct1, e_ct2, e_cat0, e_cat1, e_rk0, e_rk1, e_rk2, e_inv0, e_inv1, e_inv2, e_inv3, e_inv4, e_inv5, e_inv6, e_o0, e_o1, e_cl, e_cle, e_cg, e_cge, e_ce, e_cr1, e_cr2, e_r, e_R, e_up, Int.cast_ofNat_Int, u_app, false_and, and_false, e_b0, e_b1, e_bn, e_bl, e_bu, Int.reduceLE, Int.reduceLT, Int.reduceEq, Int.reduceNeg, Int.reduceAdd, Int.reduceSub, Int.reduceMul, Nat.reduceLeDiff, Nat.reduceLT, Nat.reduceAdd, Nat.reduceEqDiff, true_and, and_true, true_or, or_true, false_or, or_false, forall_const, not_true_eq_false, not_false_eq_true, true_implies, false_implies, implies_true, and_self, zero_ne_one, one_ne_zero, eq_self, reduceIte, s2_X3_readMaking_0, b_X3_readMaking_0, s2_X3_readMaking_13, b_X3_readMaking_13, s2_X3_readMaking_19, b_X3_readMaking_19, s2_X3_readMaking_21, b_X3_readMaking_21, s2_X3_readMaking_100, b_X3_readMaking_100, s2_X3_readMaking_108, b_X3_readMaking_108, s2_X3_readMaking_115, b_X3_readMaking_115, s2_X3_readMaking_124, b_X3_readMaking_124, s2_X3_readMaking_132, b_X3_readMaking_132, s2_X3_readMaking_136, b_X3_readMaking_136, s2_X3_readMaking_137, b_X3_readMaking_137, s2_X3_readMaking_138, b_X3_readMaking_138, s2_X3_readMaking_148, b_X3_readMaking_148, s2_X3_readMaking_156, b_X3_readMaking_156, s2_X3_readMaking_165, b_X3_readMaking_165, s2_X3_readMaking_169, b_X3_readMaking_169, s2_X3_readMaking_170, b_X3_readMaking_170, s2_X3_readMaking_171, b_X3_readMaking_171, s2_X3_readMaking_179, b_X3_readMaking_179, s2_X3_readMaking_188, b_X3_readMaking_188, s2_X3_readMaking_192, b_X3_readMaking_192, s2_X3_readMaking_193, b_X3_readMaking_193, s2_X3_readMaking_194, b_X3_readMaking_194, s2_X3_readMaking_201, b_X3_readMaking_201, g_X3_14, G_X3_readMaking_47, sp_X8_look_e, G_X3_readMaking_57, sp_X8_step_e, G_X3_readMaking_76, sp_X4_begin_e, G_X3_readMaking_81, sp_X3_readNumber_e, G_X3_readMaking_85, sp_X3_readNames_e, G_X3_readMaking_89, sp_X3_readSigned_e, G_X3_readMaking_92, sp_X3_readHow_e, hT]
  refine ⟨T, L, E, i, hat, ?_⟩
  by_cases ck : m_kd T L i = 2
  · rw [if_pos ck]
    have hE : i < E := r5 (by rw [ck]; decide)
    refine ⟨by omega, fun c => by omega, fun c => ⟨by omega, fun c12 => ⟨T, L, E, i, hat, hE, h0, hr, by omega, ?_⟩, fun c12 => ?_⟩⟩
    · have hkd : m_cd T L i = 0 ∨ m_cd T L i = 1 ∨ m_cd T L i = 2 ∨ m_cd T L i = 3 ∨ m_cd T L i = 4 ∨ m_cd T L i = 5 ∨ m_cd T L i = 6 ∨ m_cd T L i = 7 ∨ m_cd T L i = 8 ∨ m_cd T L i = 9 ∨ m_cd T L i = 10 ∨ m_cd T L i = 11 ∨ m_cd T L i = 12 := by omega
      have hmf : ∀ kd : Int, c_mf μ recipe (q_up (q_up (q_up (q_up (q_up μ 16 5 ((i : Int) + 1)) recipe 2 kd) recipe 1 0) recipe 3 13) recipe 4 0) := fun kd => c_mf_up (c_mf_up (c_mf_up (c_mf_up (c_mf_st hr ⟨fun _ _ _ _ _ => rfl, fun _ => Or.inl rfl⟩))))
      have hat2 : ∀ kd : Int, c_at T L E (i + 1) (q_up (q_up (q_up (q_up (q_up μ 16 5 ((i : Int) + 1)) recipe 2 kd) recipe 1 0) recipe 3 13) recipe 4 0) := fun kd => c_at_up hr (c_at_up hr (c_at_up hr (c_at_up hr (c_at_st hE hat))))
      have e1 : ∀ kd : Int, q_up (q_up (q_up (q_up (q_up μ 16 5 ((i : Int) + 1)) recipe 2 kd) recipe 1 0) recipe 3 13) recipe 4 0 recipe 1 = 0 := fun kd => by simp [u_app]
      have e2 : ∀ kd : Int, q_up (q_up (q_up (q_up (q_up μ 16 5 ((i : Int) + 1)) recipe 2 kd) recipe 1 0) recipe 3 13) recipe 4 0 recipe 2 = kd := fun kd => by simp [u_app]
      have e4 : ∀ kd : Int, q_up (q_up (q_up (q_up (q_up μ 16 5 ((i : Int) + 1)) recipe 2 kd) recipe 1 0) recipe 3 13) recipe 4 0 recipe 4 = 0 := fun kd => by simp [u_app]
      have ekw : m_kw T L i = m_cd T L i := if_pos ⟨ck, c12⟩
      have ek : c_mks T L nm i = (m_mk T L nm (m_cd T L i) (0, i + 1)).1 := by
        unfold c_mks
        rw [ekw, if_neg (by omega)]
      rw [ek, ekw] at hk
      clear hb r2 ek ekw
      rcases hkd with hz | hz | hz | hz | hz | hz | hz | hz | hz | hz | hz | hz | hz
      · rw [hz] at hk ⊢
        simp only [Int.reduceEq, not_true_eq_false, not_false_eq_true, forall_const, true_implies, false_implies, implies_true, and_true, true_and, and_self]
        exact rm_100 hR hr hn (hmf 0) (hat2 0) (e1 0) (e2 0) (e4 0) hk
      · rw [hz] at hk ⊢
        simp only [Int.reduceEq, not_true_eq_false, not_false_eq_true, forall_const, true_implies, false_implies, implies_true, and_true, true_and, and_self]
        exact rm_201 hR hr hn (hmf 1) (hat2 1) (e1 1) (e2 1) (e4 1) (by decide) hk
      · rw [hz] at hk ⊢
        simp only [Int.reduceEq, not_true_eq_false, not_false_eq_true, forall_const, true_implies, false_implies, implies_true, and_true, true_and, and_self]
        exact rm_201 hR hr hn (hmf 2) (hat2 2) (e1 2) (e2 2) (e4 2) (by decide) hk
      · rw [hz] at hk ⊢
        simp only [Int.reduceEq, not_true_eq_false, not_false_eq_true, forall_const, true_implies, false_implies, implies_true, and_true, true_and, and_self]
        exact rm_201 hR hr hn (hmf 3) (hat2 3) (e1 3) (e2 3) (e4 3) (by decide) hk
      · rw [hz] at hk ⊢
        simp only [Int.reduceEq, not_true_eq_false, not_false_eq_true, forall_const, true_implies, false_implies, implies_true, and_true, true_and, and_self]
        exact rm_201 hR hr hn (hmf 4) (hat2 4) (e1 4) (e2 4) (e4 4) (by decide) hk
      · rw [hz] at hk ⊢
        simp only [Int.reduceEq, not_true_eq_false, not_false_eq_true, forall_const, true_implies, false_implies, implies_true, and_true, true_and, and_self]
        exact rm_201 hR hr hn (hmf 5) (hat2 5) (e1 5) (e2 5) (e4 5) (by decide) hk
      · rw [hz] at hk ⊢
        simp only [Int.reduceEq, not_true_eq_false, not_false_eq_true, forall_const, true_implies, false_implies, implies_true, and_true, true_and, and_self]
        exact rm_201 hR hr hn (hmf 6) (hat2 6) (e1 6) (e2 6) (e4 6) (by decide) hk
      · rw [hz] at hk ⊢
        simp only [Int.reduceEq, not_true_eq_false, not_false_eq_true, forall_const, true_implies, false_implies, implies_true, and_true, true_and, and_self]
        exact rm_201 hR hr hn (hmf 7) (hat2 7) (e1 7) (e2 7) (e4 7) (by decide) hk
      · rw [hz] at hk ⊢
        simp only [Int.reduceEq, not_true_eq_false, not_false_eq_true, forall_const, true_implies, false_implies, implies_true, and_true, true_and, and_self]
        exact rm_108 hR hr hn (hmf 8) (hat2 8) (e1 8) (e2 8) (e4 8) hk
      · rw [hz] at hk ⊢
        simp only [Int.reduceEq, not_true_eq_false, not_false_eq_true, forall_const, true_implies, false_implies, implies_true, and_true, true_and, and_self]
        exact rm_115 hR hr hn (hmf 9) (hat2 9) (e1 9) (e2 9) (e4 9) hk
      · rw [hz] at hk ⊢
        simp only [Int.reduceEq, not_true_eq_false, not_false_eq_true, forall_const, true_implies, false_implies, implies_true, and_true, true_and, and_self]
        exact rm_138 hR hr hn (hmf 10) (hat2 10) (e1 10) (e2 10) (e4 10) hk
      · rw [hz] at hk ⊢
        simp only [Int.reduceEq, not_true_eq_false, not_false_eq_true, forall_const, true_implies, false_implies, implies_true, and_true, true_and, and_self]
        exact rm_171 hR hr hn (hmf 11) (hat2 11) (e1 11) (e2 11) (e4 11) hk
      · rw [hz] at hk ⊢
        simp only [Int.reduceEq, not_true_eq_false, not_false_eq_true, forall_const, true_implies, false_implies, implies_true, and_true, true_and, and_self]
        exact rm_194 hR hr hn (hmf 12) (hat2 12) (e1 12) (e2 12) (e4 12) hk
    · have ekw : m_kw T L i = -1 := if_neg (fun q => c12 q.2)
      have ek : c_mks T L nm i = (1, i) := if_pos ekw
      rw [ek, q_bf c_z1] at hk
      exact hk μ ⟨fun _ _ _ _ _ => rfl, fun _ => Or.inl rfl⟩ hat (fun q => absurd q c_z1)
  · rw [if_neg ck]
    have ekw : m_kw T L i = -1 := if_neg (fun q => ck q.1)
    have ek : c_mks T L nm i = (1, i) := if_pos ekw
    rw [ek, q_bf c_z1] at hk
    exact ⟨by omega, fun _ => hk μ ⟨fun _ _ _ _ _ => rfl, fun _ => Or.inl rfl⟩ hat (fun q => absurd q c_z1), fun c => absurd (by decide) c⟩
set_option maxRecDepth 100000 in
theorem C_X3_readMaking {l : Launch} {ad : Int → Nat} {D : va_G} {cy : Nat → ClassId} {Z : State → Prop} (hZ : q_Zg ad Z) : q_Ct l q_T q_N ad D cy Z yX3_readMaking cX3_readMaking 3 (some .boolean) rm_X3_readMaking sp_X3_readMaking := by
  obtain ⟨hf, hg, hld⟩ := q_chkS k_X3_readMaking
  refine q_met (rk := 1) q_wokT (by decide) rfl hf hg hld rfl (q_skS L2_X3_readMaking o2_X3_readMaking) ?_ ?_ ?_ ?_ B_X3_readMaking
  · intro i hi; exact absurd hi List.not_mem_nil
  · intro i hi
    have hi : i = 47 ∨ i = 57 ∨ i = 76 ∨ i = 81 ∨ i = 85 ∨ i = 89 ∨ i = 92 := by simpa [u_X3_readMaking] using hi
    rcases hi with rfl | rfl | rfl | rfl | rfl | rfl | rfl
    · exact q_crV hZ.1 (C_X8_look hZ) rv_X8_look cm_X8_look (by decide +kernel) (by decide +kernel) (by decide +kernel) (by decide +kernel) (by decide +kernel) ⟨rfl, rfl⟩ (by decide)
    · exact q_crV hZ.1 (C_X8_step hZ) rv_X8_step cm_X8_step (by decide +kernel) (by decide +kernel) (by decide +kernel) (by decide +kernel) (by decide +kernel) ⟨rfl, rfl⟩ (by decide)
    · exact q_crV hZ.1 (C_X4_begin hZ) rv_X4_begin cm_X4_begin (by decide +kernel) (by decide +kernel) (by decide +kernel) (by decide +kernel) (by decide +kernel) ⟨rfl, rfl⟩ (by decide)
    · exact q_crV hZ.1 (C_X3_readNumber hZ) rv_X3_readNumber cm_X3_readNumber (by decide +kernel) (by decide +kernel) (by decide +kernel) (by decide +kernel) (by decide +kernel) ⟨rfl, rfl⟩ (by decide)
    · exact q_crV hZ.1 (C_X3_readNames hZ) rv_X3_readNames cm_X3_readNames (by decide +kernel) (by decide +kernel) (by decide +kernel) (by decide +kernel) (by decide +kernel) ⟨rfl, rfl⟩ (by decide)
    · exact q_crV hZ.1 (C_X3_readSigned hZ) rv_X3_readSigned cm_X3_readSigned (by decide +kernel) (by decide +kernel) (by decide +kernel) (by decide +kernel) (by decide +kernel) ⟨rfl, rfl⟩ (by decide)
    · exact q_crV hZ.1 (C_X3_readHow hZ) rv_X3_readHow cm_X3_readHow (by decide +kernel) (by decide +kernel) (by decide +kernel) (by decide +kernel) (by decide +kernel) ⟨rfl, rfl⟩ (by decide)
  · intro i hi; exact absurd hi List.not_mem_nil
  · intro i hi; exact absurd hi List.not_mem_nil
theorem rv_X3_readMaking : q_rcv q_T yX3_readMaking.cls sp_X3_readMaking := by
  intro ra μ K h
  obtain ⟨this, recipe, rfl, h⟩ := sp_X3_readMaking_i h
  obtain rfl := h.1
  exact ⟨[.inr (.inr recipe)], 15, 3, _, _, rfl, T_15, rfl, rfl⟩
theorem cm_X3_readMaking : Cond.code yX3_readMaking cX3_readMaking 3 (some .boolean) ∈ q_tb := by decide +kernel

