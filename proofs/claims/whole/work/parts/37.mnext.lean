/-! the reference: tokens -/
def q_tok (μ : QM) (st to sort worth : Int) : QM := fun a j => if a = 85 ∧ j = 32 then st else if a = 85 ∧ j = 33 then to else if a = 85 ∧ j = 34 then sort else if a = 85 ∧ j = 35 then worth else μ a j
theorem u_tok (μ : QM) (st to sort worth a j : Int) : q_tok μ st to sort worth a j = if a = 85 ∧ j = 32 then st else if a = 85 ∧ j = 33 then to else if a = 85 ∧ j = 34 then sort else if a = 85 ∧ j = 35 then worth else μ a j := id rfl
theorem q_tok_id (μ : QM) : q_tok μ (μ 85 32) (μ 85 33) (μ 85 34) (μ 85 35) = μ := by
  funext a j
  simp only [u_tok]
  by_cases c1 : a = 85 ∧ j = 32
  · simp [c1]
  · by_cases c2 : a = 85 ∧ j = 33
    · simp [c2]
    · by_cases c3 : a = 85 ∧ j = 34
      · simp [c3]
      · by_cases c4 : a = 85 ∧ j = 35
        · simp [c4]
        · simp only [c1, c2, c3, c4, if_false]
theorem q_tok_32 (μ : QM) (st to sort worth v : Int) : q_up (q_tok μ st to sort worth) 85 32 v = q_tok μ v to sort worth := by
  funext a j
  simp only [u_app, u_tok]
  by_cases c1 : a = 85 ∧ j = 32
  · simp [c1]
  · simp only [c1, if_false]
theorem q_tok_33 (μ : QM) (st to sort worth v : Int) : q_up (q_tok μ st to sort worth) 85 33 v = q_tok μ st v sort worth := by
  funext a j
  simp only [u_app, u_tok]
  by_cases c1 : a = 85 ∧ j = 33
  · simp [c1]
  · simp only [c1, if_false]
theorem q_tok_34 (μ : QM) (st to sort worth v : Int) : q_up (q_tok μ st to sort worth) 85 34 v = q_tok μ st to v worth := by
  funext a j
  simp only [u_app, u_tok]
  by_cases c1 : a = 85 ∧ j = 34
  · simp [c1]
  · simp only [c1, if_false]
theorem q_tok_35 (μ : QM) (st to sort worth v : Int) : q_up (q_tok μ st to sort worth) 85 35 v = q_tok μ st to sort v := by
  funext a j
  simp only [u_app, u_tok]
  by_cases c1 : a = 85 ∧ j = 35
  · simp [c1]
  · simp only [c1, if_false]
theorem q_tok_tok (μ : QM) (a b c d e f g h : Int) : q_tok (q_tok μ a b c d) e f g h = q_tok μ e f g h := by
  funext x j
  simp only [u_tok]
  by_cases c1 : x = 85 ∧ j = 32
  · simp [c1]
  · by_cases c2 : x = 85 ∧ j = 33
    · simp [c2]
    · by_cases c3 : x = 85 ∧ j = 34
      · simp [c3]
      · by_cases c4 : x = 85 ∧ j = 35
        · simp [c4]
        · simp only [c1, c2, c3, c4, if_false]
abbrev m_sml (c : Int) : Prop := 97 ≤ c ∧ c ≤ 122
abbrev m_dig (c : Int) : Prop := 48 ≤ c ∧ c ≤ 57
/-- behind the blanks -/
def m_skp (T : Int → Int) : Nat → Int → Int
  | 0, p => p
  | n + 1, p => if T p = 32 then m_skp T n (p + 1) else p
/-- a row of letters, with its worth -/
def m_wd (T : Int → Int) (st : Int) : Nat → Int → Int → Int × Int
  | 0, p, v => (p, v)
  | n + 1, p, v => if m_sml (T p) then m_wd T st n (p + 1) (if p - st < 6 then v * 32 + T p - 96 else -1) else (p, v)
def m_dg (T : Int → Int) : Nat → Int → Int → Int × Int
  | 0, p, v => (p, v)
  | n + 1, p, v => if m_dig (T p) then m_dg T n (p + 1) (if 1000000 < v then v else v * 10 + T p - 48) else (p, v)
def m_st (T : Int → Int) (L to : Int) : Int := m_skp T (L - to).toNat to
def m_sort (T : Int → Int) (L to : Int) : Int := if m_st T L to = L then 0 else if m_sml (T (m_st T L to)) then 1 else if m_dig (T (m_st T L to)) then 2 else 3
def m_tw (T : Int → Int) (L to : Int) : Int × Int := if m_sort T L to = 3 then (m_st T L to + 1, T (m_st T L to)) else if m_sort T L to = 1 then m_wd T (m_st T L to) (L - m_st T L to).toNat (m_st T L to) 0 else if m_sort T L to = 2 then m_dg T (L - m_st T L to).toNat (m_st T L to) 0 else (m_st T L to, 0)
/-- the tape is in order -/
def m_tap (μ : QM) : Prop := (0 ≤ μ 85 31 ∧ μ 85 31 ≤ 300) ∧ ∀ j : Int, 0 ≤ j → j < μ 85 31 → 0 ≤ μ 105 j ∧ μ 105 j ≤ 255
def m_nxt (μ : QM) : QM := q_tok μ (m_st (μ 105) (μ 85 31) (μ 85 33)) (m_tw (μ 105) (μ 85 31) (μ 85 33)).1 (m_sort (μ 105) (μ 85 31) (μ 85 33)) (m_tw (μ 105) (μ 85 31) (μ 85 33)).2
theorem m_skp_b (T : Int → Int) : ∀ (n : Nat) (p : Int), p ≤ m_skp T n p ∧ m_skp T n p ≤ p + n
  | 0, p => by
    show p ≤ p ∧ p ≤ p + ((0 : Nat) : Int)
    omega
  | n + 1, p => by
    show p ≤ (if T p = 32 then m_skp T n (p + 1) else p) ∧ (if T p = 32 then m_skp T n (p + 1) else p) ≤ p + ((n + 1 : Nat) : Int)
    have := m_skp_b T n (p + 1)
    split <;> omega
def sp_X11_next : QP := fun ra μ K => match ra with
  | [.inr (.inr this)] => this = 85 ∧ m_tap μ ∧ (0 ≤ μ 85 33 ∧ μ 85 33 ≤ μ 85 31) ∧ K none (m_nxt μ)
  | _ => False
theorem sp_X11_next_e (this : Int) (μ : QM) (K : Option QV → QM → Prop) : sp_X11_next [.inr (.inr this)] μ K = (this = 85 ∧ m_tap μ ∧ (0 ≤ μ 85 33 ∧ μ 85 33 ≤ μ 85 31) ∧ K none (m_nxt μ)) := propext Iff.rfl
theorem sp_X11_next_i {ra : List QV} {μ : QM} {K : Option QV → QM → Prop} (h : sp_X11_next ra μ K) : ∃ this : Int, ra = [.inr (.inr this)] ∧ (this = 85 ∧ m_tap μ ∧ (0 ≤ μ 85 33 ∧ μ 85 33 ≤ μ 85 31) ∧ K none (m_nxt μ)) := by
  unfold sp_X11_next at h
  split at h
  · exact ⟨_, rfl, h⟩
  · exact h.elim
def rm_X11_next : Room := { frames := 1, cells := 0, slots := 0, locals := 20 }
def G_X11_next : Nat → Nat × QP := fun i => match i with
  | 233 => (1, sp_X11_isSmall)
  | 236 => (1, sp_X11_isDigit)
  | _ => (0, fun _ _ _ => False)
theorem G_X11_next_233 : G_X11_next 233 = (1, sp_X11_isSmall) := id rfl
theorem G_X11_next_236 : G_X11_next 236 = (1, sp_X11_isDigit) := id rfl
theorem tk_rd {μ : QM} {a b c d : Int} : (∀ j, q_tok μ a b c d 105 j = μ 105 j) ∧ q_tok μ a b c d 85 31 = μ 85 31 ∧ q_tok μ a b c d 85 32 = a ∧ q_tok μ a b c d 85 33 = b ∧ q_tok μ a b c d 85 34 = c ∧ q_tok μ a b c d 85 35 = d := by
  refine ⟨fun j => ?_, ?_, ?_, ?_, ?_, ?_⟩ <;> simp [u_tok]
set_option maxRecDepth 100000 in
set_option maxHeartbeats 4000000 in
theorem nx_d {Rt : Option QV → QM → Prop} {S : Nat → QL → List QV → QM → Prop} (hR : q_Rule cX11_next 1 u_X11_next fl_X11 ld_X11 G_X11_next q_T 4 s_X11_next Rt S) {μ : QM} {st : Int} (ht : m_tap μ) :
    ∀ (n : Nat) (p v : Int), 0 ≤ p → p + n = μ 85 31 → (0 ≤ v ∧ v ≤ 10000009) → (∀ q : Int × Int, q = m_dg (μ 105) n p v → Rt none (q_tok μ st q.1 2 q.2)) → S 243 [some (.inr (.inr 85))] [] (q_tok μ st p 2 v) := by
  intro n
  obtain ⟨e105, e31, -⟩ := tk_rd (μ := μ) (a := 0) (b := 0) (c := 0) (d := 0)
  induction n with
  | zero =>
    intro p v h1 h2 h3 hk
    obtain ⟨ht1, ht2⟩ := ht
    refine hR 80 b_X11_next_243 243 _ _ _ o_X11_next_243 ?_
    simp only [v_opt_n, v_opt_s, v_nil, v_iconst, v_bipush, v_sipush, v_lconst0, v_lconst1, v_ldc, v_ldcw, v_ldc2, v_iload0, v_iload1, v_iload2, v_iload3, v_iload, v_lload0, v_lload1, v_lload2, v_lload3, v_lload, v_aload0, v_aload1, v_aload2, v_aload3, v_aload, v_istore0, v_istore1, v_istore2, v_istore3, v_istore, v_lstore0, v_lstore1, v_lstore2, v_lstore3, v_lstore, v_astore0, v_astore1, v_astore2, v_astore3, v_astore, v_iinc, v_iadd, v_isub, v_imul, v_iand, v_ior, v_ixor, v_ishl, v_ishr, v_iushr, v_ineg, v_idiv, v_irem, v_ladd, v_lsub, v_lmul, v_lcmp, v_i2l, v_l2i, v_i2c, v_dup, v_dup2, v_if_eq, v_if_ne, v_if_lt, v_if_ge, v_if_gt, v_if_le, v_ic_eq, v_ic_ne, v_ic_lt, v_ic_ge, v_ic_gt, v_ic_le, v_goto, v_tsw, v_lsw, v_ireturn, v_areturn, v_return, v_iaload, v_laload, v_baload, v_caload, v_aaload, v_iastore, v_lastore, v_bastore, v_castore, v_alen, v_invvi, v_invst, v_invsp, e_int, e_lng, e_ref, e_lg0, e_lg1, e_lg2, e_lg3, e_lg4, e_lg5, e_lg6, e_lg7, e_lg8, e_lg9, e_lg10, e_lg11, e_lg12, e_lg13, e_clrI, e_clrJ, e_clrP, e_clrN, e_s0, e_s1, e_s2, e_s3, e_s4, e_s5, e_s6, e_s7, e_s8, e_s9, e_s10, e_s11, e_s12, e_s13, e_t0, e_t1, e_t2, e_t3, e_t4, e_t5, e_t6, e_t7, e_t8, e_t9, e_t10, e_t11, e_t12, e_t13, e_fd, e_kk, e_k0, e_k1, e_k2, e_k3, e_k4, e_k5, e_k6, e_k7, e_k8, e_k9, e_sv0, e_sv1, e_sv2, e_sv3, e_svc, e_pf0, e_pf1, e_pf2, e_pf3, e_ar, e_aa, e_al, e_sw1, e_sw2, e_ct0, e_ct1, e_ct2, e_cat0, e_cat1, e_rk0, e_rk1, e_rk2, e_inv0, e_inv1, e_inv2, e_inv3, e_inv4, e_inv5, e_inv6, e_o0, e_o1, e_cl, e_cle, e_cg, e_cge, e_ce, e_cr1, e_cr2, e_r, e_R, e_up, Int.cast_ofNat_Int, u_app, false_and, and_false, e_b0, e_b1, e_bn, e_bl, e_bu, Int.reduceLE, Int.reduceLT, Int.reduceEq, Int.reduceNeg, Int.reduceAdd, Int.reduceSub, Int.reduceMul, Nat.reduceLeDiff, Nat.reduceLT, Nat.reduceAdd, Nat.reduceEqDiff, true_and, and_true, true_or, or_true, false_or, or_false, forall_const, not_true_eq_false, not_false_eq_true, true_implies, false_implies, implies_true, and_self, zero_ne_one, one_ne_zero, eq_self, reduceIte, s_X11_next_0, b_X11_next_0, s_X11_next_8, b_X11_next_8, s_X11_next_19, b_X11_next_19, s_X11_next_33, b_X11_next_33, s_X11_next_46, b_X11_next_46, s_X11_next_71, b_X11_next_71, s_X11_next_75, b_X11_next_75, s_X11_next_90, b_X11_next_90, s_X11_next_94, b_X11_next_94, s_X11_next_109, b_X11_next_109, s_X11_next_113, b_X11_next_113, s_X11_next_114, b_X11_next_114, s_X11_next_125, b_X11_next_125, s_X11_next_149, b_X11_next_149, s_X11_next_157, b_X11_next_157, s_X11_next_168, b_X11_next_168, s_X11_next_183, b_X11_next_183, s_X11_next_198, b_X11_next_198, s_X11_next_224, b_X11_next_224, s_X11_next_227, b_X11_next_227, s_X11_next_243, b_X11_next_243, s_X11_next_251, b_X11_next_251, s_X11_next_262, b_X11_next_262, s_X11_next_277, b_X11_next_277, s_X11_next_289, b_X11_next_289, s_X11_next_296, b_X11_next_296, s_X11_next_319, b_X11_next_319, s_X11_next_335, b_X11_next_335, g_X11_224, p_X11_224, g_X11_227, p_X11_227, g_X11_218, g_X11_76, g_X11_230, p_X11_230, g_X11_239, p_X11_239, ld_X11_242, ld_X11_244, ld_X11_204, ld_X11_111, ld_X11_246, ld_X11_248, G_X11_next_233, sp_X11_isSmall_e, G_X11_next_236, sp_X11_isDigit_e, u_tok]
    exact ⟨by omega, fun _ => hk _ rfl, fun c => by omega⟩
  | succ n ih =>
    intro p v h1 h2 h3 hk
    have ht1 := ht.1
    have ht2 := ht.2 p h1 (by omega)
    have ih1 := ih (p + 1) (if 1000000 < v then v else v * 10 + μ 105 p - 48) (by omega) (by omega)
    have hk' : ∀ q : Int × Int, q = (if m_dig (μ 105 p) then m_dg (μ 105) n (p + 1) (if 1000000 < v then v else v * 10 + μ 105 p - 48) else (p, v)) → Rt none (q_tok μ st q.1 2 q.2) := hk
    have go : m_dig (μ 105 p) → S 243 [some (.inr (.inr 85))] [] (q_tok μ st (p + 1) 2 (if 1000000 < v then v else v * 10 + μ 105 p - 48)) := fun hd => by
      refine ih1 (by split <;> omega) (fun q e => hk' q ?_)
      rw [if_pos hd]
      exact e
    have eU3 := fun st to sort worth v => q_tok_33 μ st to sort worth v
    have eU5 := fun st to sort worth v => q_tok_35 μ st to sort worth v
    refine hR 120 b_X11_next_243 243 _ _ _ o_X11_next_243 ?_
    simp only [v_opt_n, v_opt_s, v_nil, v_iconst, v_bipush, v_sipush, v_lconst0, v_lconst1, v_ldc, v_ldcw, v_ldc2, v_iload0, v_iload1, v_iload2, v_iload3, v_iload, v_lload0, v_lload1, v_lload2, v_lload3, v_lload, v_aload0, v_aload1, v_aload2, v_aload3, v_aload, v_istore0, v_istore1, v_istore2, v_istore3, v_istore, v_lstore0, v_lstore1, v_lstore2, v_lstore3, v_lstore, v_astore0, v_astore1, v_astore2, v_astore3, v_astore, v_iinc, v_iadd, v_isub, v_imul, v_iand, v_ior, v_ixor, v_ishl, v_ishr, v_iushr, v_ineg, v_idiv, v_irem, v_ladd, v_lsub, v_lmul, v_lcmp, v_i2l, v_l2i, v_i2c, v_dup, v_dup2, v_if_eq, v_if_ne, v_if_lt, v_if_ge, v_if_gt, v_if_le, v_ic_eq, v_ic_ne, v_ic_lt, v_ic_ge, v_ic_gt, v_ic_le, v_goto, v_tsw, v_lsw, v_ireturn, v_areturn, v_return, v_iaload, v_laload, v_baload, v_caload, v_aaload, v_iastore, v_lastore, v_bastore, v_castore, v_alen, v_invvi, v_invst, v_invsp, e_int, e_lng, e_ref, e_lg0, e_lg1, e_lg2, e_lg3, e_lg4, e_lg5, e_lg6, e_lg7, e_lg8, e_lg9, e_lg10, e_lg11, e_lg12, e_lg13, e_clrI, e_clrJ, e_clrP, e_clrN, e_s0, e_s1, e_s2, e_s3, e_s4, e_s5, e_s6, e_s7, e_s8, e_s9, e_s10, e_s11, e_s12, e_s13, e_t0, e_t1, e_t2, e_t3, e_t4, e_t5, e_t6, e_t7, e_t8, e_t9, e_t10, e_t11, e_t12, e_t13, e_fd, e_kk, e_k0, e_k1, e_k2, e_k3, e_k4, e_k5, e_k6, e_k7, e_k8, e_k9, e_sv0, e_sv1, e_sv2, e_sv3, e_svc, e_pf0, e_pf1, e_pf2, e_pf3, e_ar, e_aa, e_al, e_sw1, e_sw2, e_ct0, e_ct1, e_ct2, e_cat0, e_cat1, e_rk0, e_rk1, e_rk2, e_inv0, e_inv1, e_inv2, e_inv3, e_inv4, e_inv5, e_inv6, e_o0, e_o1, e_cl, e_cle, e_cg, e_cge, e_ce, e_cr1, e_cr2, e_r, e_R, e_up, Int.cast_ofNat_Int, u_app, false_and, and_false, e_b0, e_b1, e_bn, e_bl, e_bu, Int.reduceLE, Int.reduceLT, Int.reduceEq, Int.reduceNeg, Int.reduceAdd, Int.reduceSub, Int.reduceMul, Nat.reduceLeDiff, Nat.reduceLT, Nat.reduceAdd, Nat.reduceEqDiff, true_and, and_true, true_or, or_true, false_or, or_false, forall_const, not_true_eq_false, not_false_eq_true, true_implies, false_implies, implies_true, and_self, zero_ne_one, one_ne_zero, eq_self, reduceIte, s_X11_next_0, b_X11_next_0, s_X11_next_8, b_X11_next_8, s_X11_next_19, b_X11_next_19, s_X11_next_33, b_X11_next_33, s_X11_next_46, b_X11_next_46, s_X11_next_71, b_X11_next_71, s_X11_next_75, b_X11_next_75, s_X11_next_90, b_X11_next_90, s_X11_next_94, b_X11_next_94, s_X11_next_109, b_X11_next_109, s_X11_next_113, b_X11_next_113, s_X11_next_114, b_X11_next_114, s_X11_next_125, b_X11_next_125, s_X11_next_149, b_X11_next_149, s_X11_next_157, b_X11_next_157, s_X11_next_168, b_X11_next_168, s_X11_next_183, b_X11_next_183, s_X11_next_198, b_X11_next_198, s_X11_next_224, b_X11_next_224, s_X11_next_227, b_X11_next_227, s_X11_next_243, b_X11_next_243, s_X11_next_251, b_X11_next_251, s_X11_next_262, b_X11_next_262, s_X11_next_277, b_X11_next_277, s_X11_next_289, b_X11_next_289, s_X11_next_296, b_X11_next_296, s_X11_next_319, b_X11_next_319, s_X11_next_335, b_X11_next_335, g_X11_224, p_X11_224, g_X11_227, p_X11_227, g_X11_218, g_X11_76, g_X11_230, p_X11_230, g_X11_239, p_X11_239, ld_X11_242, ld_X11_244, ld_X11_204, ld_X11_111, ld_X11_246, ld_X11_248, G_X11_next_233, sp_X11_isSmall_e, G_X11_next_236, sp_X11_isDigit_e, u_tok, T_105, eU3, eU5]
    refine ⟨by omega, fun c => by omega, fun c => ⟨by omega, by omega, by omega, fun c1 => hk' (p, v) (by rw [if_neg c1]), fun c1 => ⟨by omega, fun c2 => ⟨by omega, by omega, by omega, ?_⟩, fun c2 => ?_⟩⟩⟩
    · have g := go (Classical.not_not.mp c1)
      rw [if_neg (by omega)] at g
      exact g
    · have g := go (Classical.not_not.mp c1)
      rw [if_pos (by omega)] at g
      exact g
set_option maxRecDepth 100000 in
set_option maxHeartbeats 4000000 in
theorem nx_w {Rt : Option QV → QM → Prop} {S : Nat → QL → List QV → QM → Prop} (hR : q_Rule cX11_next 1 u_X11_next fl_X11 ld_X11 G_X11_next q_T 4 s_X11_next Rt S) {μ : QM} {st : Int} (ht : m_tap μ) (hs : 0 ≤ st) :
    ∀ (n : Nat) (p v : Int), st ≤ p → p + n = μ 85 31 → (∀ q : Int × Int, q = m_wd (μ 105) st n p v → S 243 [some (.inr (.inr 85))] [] (q_tok μ st q.1 1 q.2)) → S 149 [some (.inr (.inr 85))] [] (q_tok μ st p 1 v) := by
  intro n
  induction n with
  | zero =>
    intro p v h1 h2 hk
    obtain ⟨ht1, ht2⟩ := ht
    refine hR 80 b_X11_next_149 149 _ _ _ o_X11_next_149 ?_
    simp only [v_opt_n, v_opt_s, v_nil, v_iconst, v_bipush, v_sipush, v_lconst0, v_lconst1, v_ldc, v_ldcw, v_ldc2, v_iload0, v_iload1, v_iload2, v_iload3, v_iload, v_lload0, v_lload1, v_lload2, v_lload3, v_lload, v_aload0, v_aload1, v_aload2, v_aload3, v_aload, v_istore0, v_istore1, v_istore2, v_istore3, v_istore, v_lstore0, v_lstore1, v_lstore2, v_lstore3, v_lstore, v_astore0, v_astore1, v_astore2, v_astore3, v_astore, v_iinc, v_iadd, v_isub, v_imul, v_iand, v_ior, v_ixor, v_ishl, v_ishr, v_iushr, v_ineg, v_idiv, v_irem, v_ladd, v_lsub, v_lmul, v_lcmp, v_i2l, v_l2i, v_i2c, v_dup, v_dup2, v_if_eq, v_if_ne, v_if_lt, v_if_ge, v_if_gt, v_if_le, v_ic_eq, v_ic_ne, v_ic_lt, v_ic_ge, v_ic_gt, v_ic_le, v_goto, v_tsw, v_lsw, v_ireturn, v_areturn, v_return, v_iaload, v_laload, v_baload, v_caload, v_aaload, v_iastore, v_lastore, v_bastore, v_castore, v_alen, v_invvi, v_invst, v_invsp, e_int, e_lng, e_ref, e_lg0, e_lg1, e_lg2, e_lg3, e_lg4, e_lg5, e_lg6, e_lg7, e_lg8, e_lg9, e_lg10, e_lg11, e_lg12, e_lg13, e_clrI, e_clrJ, e_clrP, e_clrN, e_s0, e_s1, e_s2, e_s3, e_s4, e_s5, e_s6, e_s7, e_s8, e_s9, e_s10, e_s11, e_s12, e_s13, e_t0, e_t1, e_t2, e_t3, e_t4, e_t5, e_t6, e_t7, e_t8, e_t9, e_t10, e_t11, e_t12, e_t13, e_fd, e_kk, e_k0, e_k1, e_k2, e_k3, e_k4, e_k5, e_k6, e_k7, e_k8, e_k9, e_sv0, e_sv1, e_sv2, e_sv3, e_svc, e_pf0, e_pf1, e_pf2, e_pf3, e_ar, e_aa, e_al, e_sw1, e_sw2, e_ct0, e_ct1, e_ct2, e_cat0, e_cat1, e_rk0, e_rk1, e_rk2, e_inv0, e_inv1, e_inv2, e_inv3, e_inv4, e_inv5, e_inv6, e_o0, e_o1, e_cl, e_cle, e_cg, e_cge, e_ce, e_cr1, e_cr2, e_r, e_R, e_up, Int.cast_ofNat_Int, u_app, false_and, and_false, e_b0, e_b1, e_bn, e_bl, e_bu, Int.reduceLE, Int.reduceLT, Int.reduceEq, Int.reduceNeg, Int.reduceAdd, Int.reduceSub, Int.reduceMul, Nat.reduceLeDiff, Nat.reduceLT, Nat.reduceAdd, Nat.reduceEqDiff, true_and, and_true, true_or, or_true, false_or, or_false, forall_const, not_true_eq_false, not_false_eq_true, true_implies, false_implies, implies_true, and_self, zero_ne_one, one_ne_zero, eq_self, reduceIte, s_X11_next_0, b_X11_next_0, s_X11_next_8, b_X11_next_8, s_X11_next_19, b_X11_next_19, s_X11_next_33, b_X11_next_33, s_X11_next_46, b_X11_next_46, s_X11_next_71, b_X11_next_71, s_X11_next_75, b_X11_next_75, s_X11_next_90, b_X11_next_90, s_X11_next_94, b_X11_next_94, s_X11_next_109, b_X11_next_109, s_X11_next_113, b_X11_next_113, s_X11_next_114, b_X11_next_114, s_X11_next_125, b_X11_next_125, s_X11_next_149, b_X11_next_149, s_X11_next_157, b_X11_next_157, s_X11_next_168, b_X11_next_168, s_X11_next_183, b_X11_next_183, s_X11_next_198, b_X11_next_198, s_X11_next_224, b_X11_next_224, s_X11_next_227, b_X11_next_227, s_X11_next_243, b_X11_next_243, s_X11_next_251, b_X11_next_251, s_X11_next_262, b_X11_next_262, s_X11_next_277, b_X11_next_277, s_X11_next_289, b_X11_next_289, s_X11_next_296, b_X11_next_296, s_X11_next_319, b_X11_next_319, s_X11_next_335, b_X11_next_335, g_X11_224, p_X11_224, g_X11_227, p_X11_227, g_X11_218, g_X11_76, g_X11_230, p_X11_230, g_X11_239, p_X11_239, ld_X11_242, ld_X11_244, ld_X11_204, ld_X11_111, ld_X11_246, ld_X11_248, G_X11_next_233, sp_X11_isSmall_e, G_X11_next_236, sp_X11_isDigit_e, u_tok]
    exact ⟨by omega, fun _ => hk _ rfl, fun c => by omega⟩
  | succ n ih =>
    intro p v h1 h2 hk
    have ht1 := ht.1
    have ht2 := ht.2 p (by omega) (by omega)
    have ih1 := ih (p + 1) (if p - st < 6 then v * 32 + μ 105 p - 96 else -1) (by omega) (by omega)
    have hk' : ∀ q : Int × Int, q = (if m_sml (μ 105 p) then m_wd (μ 105) st n (p + 1) (if p - st < 6 then v * 32 + μ 105 p - 96 else -1) else (p, v)) → S 243 [some (.inr (.inr 85))] [] (q_tok μ st q.1 1 q.2) := hk
    have go : m_sml (μ 105 p) → S 149 [some (.inr (.inr 85))] [] (q_tok μ st (p + 1) 1 (if p - st < 6 then v * 32 + μ 105 p - 96 else -1)) := fun hd => by
      refine ih1 (fun q e => hk' q ?_)
      rw [if_pos hd]
      exact e
    have eU3 := fun st to sort worth v => q_tok_33 μ st to sort worth v
    have eU5 := fun st to sort worth v => q_tok_35 μ st to sort worth v
    refine hR 120 b_X11_next_149 149 _ _ _ o_X11_next_149 ?_
    simp only [v_opt_n, v_opt_s, v_nil, v_iconst, v_bipush, v_sipush, v_lconst0, v_lconst1, v_ldc, v_ldcw, v_ldc2, v_iload0, v_iload1, v_iload2, v_iload3, v_iload, v_lload0, v_lload1, v_lload2, v_lload3, v_lload, v_aload0, v_aload1, v_aload2, v_aload3, v_aload, v_istore0, v_istore1, v_istore2, v_istore3, v_istore, v_lstore0, v_lstore1, v_lstore2, v_lstore3, v_lstore, v_astore0, v_astore1, v_astore2, v_astore3, v_astore, v_iinc, v_iadd, v_isub, v_imul, v_iand, v_ior, v_ixor, v_ishl, v_ishr, v_iushr, v_ineg, v_idiv, v_irem, v_ladd, v_lsub, v_lmul, v_lcmp, v_i2l, v_l2i, v_i2c, v_dup, v_dup2, v_if_eq, v_if_ne, v_if_lt, v_if_ge, v_if_gt, v_if_le, v_ic_eq, v_ic_ne, v_ic_lt, v_ic_ge, v_ic_gt, v_ic_le, v_goto, v_tsw, v_lsw, v_ireturn, v_areturn, v_return, v_iaload, v_laload, v_baload, v_caload, v_aaload, v_iastore, v_lastore, v_bastore, v_castore, v_alen, v_invvi, v_invst, v_invsp, e_int, e_lng, e_ref, e_lg0, e_lg1, e_lg2, e_lg3, e_lg4, e_lg5, e_lg6, e_lg7, e_lg8, e_lg9, e_lg10, e_lg11, e_lg12, e_lg13, e_clrI, e_clrJ, e_clrP, e_clrN, e_s0, e_s1, e_s2, e_s3, e_s4, e_s5, e_s6, e_s7, e_s8, e_s9, e_s10, e_s11, e_s12, e_s13, e_t0, e_t1, e_t2, e_t3, e_t4, e_t5, e_t6, e_t7, e_t8, e_t9, e_t10, e_t11, e_t12, e_t13, e_fd, e_kk, e_k0, e_k1, e_k2, e_k3, e_k4, e_k5, e_k6, e_k7, e_k8, e_k9, e_sv0, e_sv1, e_sv2, e_sv3, e_svc, e_pf0, e_pf1, e_pf2, e_pf3, e_ar, e_aa, e_al, e_sw1, e_sw2, e_ct0, e_ct1, e_ct2, e_cat0, e_cat1, e_rk0, e_rk1, e_rk2, e_inv0, e_inv1, e_inv2, e_inv3, e_inv4, e_inv5, e_inv6, e_o0, e_o1, e_cl, e_cle, e_cg, e_cge, e_ce, e_cr1, e_cr2, e_r, e_R, e_up, Int.cast_ofNat_Int, u_app, false_and, and_false, e_b0, e_b1, e_bn, e_bl, e_bu, Int.reduceLE, Int.reduceLT, Int.reduceEq, Int.reduceNeg, Int.reduceAdd, Int.reduceSub, Int.reduceMul, Nat.reduceLeDiff, Nat.reduceLT, Nat.reduceAdd, Nat.reduceEqDiff, true_and, and_true, true_or, or_true, false_or, or_false, forall_const, not_true_eq_false, not_false_eq_true, true_implies, false_implies, implies_true, and_self, zero_ne_one, one_ne_zero, eq_self, reduceIte, s_X11_next_0, b_X11_next_0, s_X11_next_8, b_X11_next_8, s_X11_next_19, b_X11_next_19, s_X11_next_33, b_X11_next_33, s_X11_next_46, b_X11_next_46, s_X11_next_71, b_X11_next_71, s_X11_next_75, b_X11_next_75, s_X11_next_90, b_X11_next_90, s_X11_next_94, b_X11_next_94, s_X11_next_109, b_X11_next_109, s_X11_next_113, b_X11_next_113, s_X11_next_114, b_X11_next_114, s_X11_next_125, b_X11_next_125, s_X11_next_149, b_X11_next_149, s_X11_next_157, b_X11_next_157, s_X11_next_168, b_X11_next_168, s_X11_next_183, b_X11_next_183, s_X11_next_198, b_X11_next_198, s_X11_next_224, b_X11_next_224, s_X11_next_227, b_X11_next_227, s_X11_next_243, b_X11_next_243, s_X11_next_251, b_X11_next_251, s_X11_next_262, b_X11_next_262, s_X11_next_277, b_X11_next_277, s_X11_next_289, b_X11_next_289, s_X11_next_296, b_X11_next_296, s_X11_next_319, b_X11_next_319, s_X11_next_335, b_X11_next_335, g_X11_224, p_X11_224, g_X11_227, p_X11_227, g_X11_218, g_X11_76, g_X11_230, p_X11_230, g_X11_239, p_X11_239, ld_X11_242, ld_X11_244, ld_X11_204, ld_X11_111, ld_X11_246, ld_X11_248, G_X11_next_233, sp_X11_isSmall_e, G_X11_next_236, sp_X11_isDigit_e, u_tok, T_105, eU3, eU5]
    refine ⟨by omega, fun c => by omega, fun c => ⟨by omega, by omega, by omega, fun c1 => hk' (p, v) (by rw [if_neg c1]), fun c1 => ⟨by omega, fun c2 => ?_, fun c2 => ?_⟩⟩⟩
    · have g := go (Classical.not_not.mp c1)
      rw [if_neg (by omega)] at g
      exact g
    · have g := go (Classical.not_not.mp c1)
      rw [if_pos (by omega)] at g
      exact ⟨by omega, by omega, by omega, g⟩
theorem nx_e {Rt : Option QV → QM → Prop} {S : Nat → QL → List QV → QM → Prop} (hR : q_Rule cX11_next 1 u_X11_next fl_X11 ld_X11 G_X11_next q_T 4 s_X11_next Rt S) {μ : QM} {st p so v : Int} (hs : so = 0 ∨ so = 1 ∨ so = 3) (hk : Rt none (q_tok μ st p so v)) : S 243 [some (.inr (.inr 85))] [] (q_tok μ st p so v) := by
  refine hR 80 b_X11_next_243 243 _ _ _ o_X11_next_243 ?_
  simp only [v_opt_n, v_opt_s, v_nil, v_iconst, v_bipush, v_sipush, v_lconst0, v_lconst1, v_ldc, v_ldcw, v_ldc2, v_iload0, v_iload1, v_iload2, v_iload3, v_iload, v_lload0, v_lload1, v_lload2, v_lload3, v_lload, v_aload0, v_aload1, v_aload2, v_aload3, v_aload, v_istore0, v_istore1, v_istore2, v_istore3, v_istore, v_lstore0, v_lstore1, v_lstore2, v_lstore3, v_lstore, v_astore0, v_astore1, v_astore2, v_astore3, v_astore, v_iinc, v_iadd, v_isub, v_imul, v_iand, v_ior, v_ixor, v_ishl, v_ishr, v_iushr, v_ineg, v_idiv, v_irem, v_ladd, v_lsub, v_lmul, v_lcmp, v_i2l, v_l2i, v_i2c, v_dup, v_dup2, v_if_eq, v_if_ne, v_if_lt, v_if_ge, v_if_gt, v_if_le, v_ic_eq, v_ic_ne, v_ic_lt, v_ic_ge, v_ic_gt, v_ic_le, v_goto, v_tsw, v_lsw, v_ireturn, v_areturn, v_return, v_iaload, v_laload, v_baload, v_caload, v_aaload, v_iastore, v_lastore, v_bastore, v_castore, v_alen, v_invvi, v_invst, v_invsp, e_int, e_lng, e_ref, e_lg0, e_lg1, e_lg2, e_lg3, e_lg4, e_lg5, e_lg6, e_lg7, e_lg8, e_lg9, e_lg10, e_lg11, e_lg12, e_lg13, e_clrI, e_clrJ, e_clrP, e_clrN, e_s0, e_s1, e_s2, e_s3, e_s4, e_s5, e_s6, e_s7, e_s8, e_s9, e_s10, e_s11, e_s12, e_s13, e_t0, e_t1, e_t2, e_t3, e_t4, e_t5, e_t6, e_t7, e_t8, e_t9, e_t10, e_t11, e_t12, e_t13, e_fd, e_kk, e_k0, e_k1, e_k2, e_k3, e_k4, e_k5, e_k6, e_k7, e_k8, e_k9, e_sv0, e_sv1, e_sv2, e_sv3, e_svc, e_pf0, e_pf1, e_pf2, e_pf3, e_ar, e_aa, e_al, e_sw1, e_sw2, e_ct0, e_ct1, e_ct2, e_cat0, e_cat1, e_rk0, e_rk1, e_rk2, e_inv0, e_inv1, e_inv2, e_inv3, e_inv4, e_inv5, e_inv6, e_o0, e_o1, e_cl, e_cle, e_cg, e_cge, e_ce, e_cr1, e_cr2, e_r, e_R, e_up, Int.cast_ofNat_Int, u_app, false_and, and_false, e_b0, e_b1, e_bn, e_bl, e_bu, Int.reduceLE, Int.reduceLT, Int.reduceEq, Int.reduceNeg, Int.reduceAdd, Int.reduceSub, Int.reduceMul, Nat.reduceLeDiff, Nat.reduceLT, Nat.reduceAdd, Nat.reduceEqDiff, true_and, and_true, true_or, or_true, false_or, or_false, forall_const, not_true_eq_false, not_false_eq_true, true_implies, false_implies, implies_true, and_self, zero_ne_one, one_ne_zero, eq_self, reduceIte, s_X11_next_0, b_X11_next_0, s_X11_next_8, b_X11_next_8, s_X11_next_19, b_X11_next_19, s_X11_next_33, b_X11_next_33, s_X11_next_46, b_X11_next_46, s_X11_next_71, b_X11_next_71, s_X11_next_75, b_X11_next_75, s_X11_next_90, b_X11_next_90, s_X11_next_94, b_X11_next_94, s_X11_next_109, b_X11_next_109, s_X11_next_113, b_X11_next_113, s_X11_next_114, b_X11_next_114, s_X11_next_125, b_X11_next_125, s_X11_next_149, b_X11_next_149, s_X11_next_157, b_X11_next_157, s_X11_next_168, b_X11_next_168, s_X11_next_183, b_X11_next_183, s_X11_next_198, b_X11_next_198, s_X11_next_224, b_X11_next_224, s_X11_next_227, b_X11_next_227, s_X11_next_243, b_X11_next_243, s_X11_next_251, b_X11_next_251, s_X11_next_262, b_X11_next_262, s_X11_next_277, b_X11_next_277, s_X11_next_289, b_X11_next_289, s_X11_next_296, b_X11_next_296, s_X11_next_319, b_X11_next_319, s_X11_next_335, b_X11_next_335, g_X11_224, p_X11_224, g_X11_227, p_X11_227, g_X11_218, g_X11_76, g_X11_230, p_X11_230, g_X11_239, p_X11_239, ld_X11_242, ld_X11_244, ld_X11_204, ld_X11_111, ld_X11_246, ld_X11_248, G_X11_next_233, sp_X11_isSmall_e, G_X11_next_236, sp_X11_isDigit_e, u_tok]
  exact ⟨by omega, fun _ => hk, fun c => by omega⟩
theorem nx_f {Rt : Option QV → QM → Prop} {S : Nat → QL → List QV → QM → Prop} (hR : q_Rule cX11_next 1 u_X11_next fl_X11 ld_X11 G_X11_next q_T 4 s_X11_next Rt S) {μ : QM} {st p so v : Int} (hs : so = 0 ∨ so = 2 ∨ so = 3) (hk : S 243 [some (.inr (.inr 85))] [] (q_tok μ st p so v)) : S 149 [some (.inr (.inr 85))] [] (q_tok μ st p so v) := by
  refine hR 80 b_X11_next_149 149 _ _ _ o_X11_next_149 ?_
  simp only [v_opt_n, v_opt_s, v_nil, v_iconst, v_bipush, v_sipush, v_lconst0, v_lconst1, v_ldc, v_ldcw, v_ldc2, v_iload0, v_iload1, v_iload2, v_iload3, v_iload, v_lload0, v_lload1, v_lload2, v_lload3, v_lload, v_aload0, v_aload1, v_aload2, v_aload3, v_aload, v_istore0, v_istore1, v_istore2, v_istore3, v_istore, v_lstore0, v_lstore1, v_lstore2, v_lstore3, v_lstore, v_astore0, v_astore1, v_astore2, v_astore3, v_astore, v_iinc, v_iadd, v_isub, v_imul, v_iand, v_ior, v_ixor, v_ishl, v_ishr, v_iushr, v_ineg, v_idiv, v_irem, v_ladd, v_lsub, v_lmul, v_lcmp, v_i2l, v_l2i, v_i2c, v_dup, v_dup2, v_if_eq, v_if_ne, v_if_lt, v_if_ge, v_if_gt, v_if_le, v_ic_eq, v_ic_ne, v_ic_lt, v_ic_ge, v_ic_gt, v_ic_le, v_goto, v_tsw, v_lsw, v_ireturn, v_areturn, v_return, v_iaload, v_laload, v_baload, v_caload, v_aaload, v_iastore, v_lastore, v_bastore, v_castore, v_alen, v_invvi, v_invst, v_invsp, e_int, e_lng, e_ref, e_lg0, e_lg1, e_lg2, e_lg3, e_lg4, e_lg5, e_lg6, e_lg7, e_lg8, e_lg9, e_lg10, e_lg11, e_lg12, e_lg13, e_clrI, e_clrJ, e_clrP, e_clrN, e_s0, e_s1, e_s2, e_s3, e_s4, e_s5, e_s6, e_s7, e_s8, e_s9, e_s10, e_s11, e_s12, e_s13, e_t0, e_t1, e_t2, e_t3, e_t4, e_t5, e_t6, e_t7, e_t8, e_t9, e_t10, e_t11, e_t12, e_t13, e_fd, e_kk, e_k0, e_k1, e_k2, e_k3, e_k4, e_k5, e_k6, e_k7, e_k8, e_k9, e_sv0, e_sv1, e_sv2, e_sv3, e_svc, e_pf0, e_pf1, e_pf2, e_pf3, e_ar, e_aa, e_al, e_sw1, e_sw2, e_ct0, e_ct1, e_ct2, e_cat0, e_cat1, e_rk0, e_rk1, e_rk2, e_inv0, e_inv1, e_inv2, e_inv3, e_inv4, e_inv5, e_inv6, e_o0, e_o1, e_cl, e_cle, e_cg, e_cge, e_ce, e_cr1, e_cr2, e_r, e_R, e_up, Int.cast_ofNat_Int, u_app, false_and, and_false, e_b0, e_b1, e_bn, e_bl, e_bu, Int.reduceLE, Int.reduceLT, Int.reduceEq, Int.reduceNeg, Int.reduceAdd, Int.reduceSub, Int.reduceMul, Nat.reduceLeDiff, Nat.reduceLT, Nat.reduceAdd, Nat.reduceEqDiff, true_and, and_true, true_or, or_true, false_or, or_false, forall_const, not_true_eq_false, not_false_eq_true, true_implies, false_implies, implies_true, and_self, zero_ne_one, one_ne_zero, eq_self, reduceIte, s_X11_next_0, b_X11_next_0, s_X11_next_8, b_X11_next_8, s_X11_next_19, b_X11_next_19, s_X11_next_33, b_X11_next_33, s_X11_next_46, b_X11_next_46, s_X11_next_71, b_X11_next_71, s_X11_next_75, b_X11_next_75, s_X11_next_90, b_X11_next_90, s_X11_next_94, b_X11_next_94, s_X11_next_109, b_X11_next_109, s_X11_next_113, b_X11_next_113, s_X11_next_114, b_X11_next_114, s_X11_next_125, b_X11_next_125, s_X11_next_149, b_X11_next_149, s_X11_next_157, b_X11_next_157, s_X11_next_168, b_X11_next_168, s_X11_next_183, b_X11_next_183, s_X11_next_198, b_X11_next_198, s_X11_next_224, b_X11_next_224, s_X11_next_227, b_X11_next_227, s_X11_next_243, b_X11_next_243, s_X11_next_251, b_X11_next_251, s_X11_next_262, b_X11_next_262, s_X11_next_277, b_X11_next_277, s_X11_next_289, b_X11_next_289, s_X11_next_296, b_X11_next_296, s_X11_next_319, b_X11_next_319, s_X11_next_335, b_X11_next_335, g_X11_224, p_X11_224, g_X11_227, p_X11_227, g_X11_218, g_X11_76, g_X11_230, p_X11_230, g_X11_239, p_X11_239, ld_X11_242, ld_X11_244, ld_X11_204, ld_X11_111, ld_X11_246, ld_X11_248, G_X11_next_233, sp_X11_isSmall_e, G_X11_next_236, sp_X11_isDigit_e, u_tok]
  exact ⟨by omega, fun _ => hk, fun c => by omega⟩
set_option maxRecDepth 100000 in
set_option maxHeartbeats 4000000 in
theorem nx_s {Rt : Option QV → QM → Prop} {S : Nat → QL → List QV → QM → Prop} (hR : q_Rule cX11_next 1 u_X11_next fl_X11 ld_X11 G_X11_next q_T 4 s_X11_next Rt S) {μ : QM} {to so wo : Int} (ht : m_tap μ) :
    ∀ (n : Nat) (p : Int), 0 ≤ p → p + n = μ 85 31 → (∀ (st : Int) (q : Int × Int) (s : Int), st = m_skp (μ 105) n p → s = (if st = μ 85 31 then 0 else if m_sml (μ 105 st) then 1 else if m_dig (μ 105 st) then 2 else 3) → q = (if s = 3 then (st + 1, μ 105 st) else if s = 1 then m_wd (μ 105) st (μ 85 31 - st).toNat st 0 else if s = 2 then m_dg (μ 105) (μ 85 31 - st).toNat st 0 else (st, 0)) → Rt none (q_tok μ st q.1 s q.2)) → S 8 [some (.inr (.inr 85))] [] (q_tok μ p to so wo) := by
  intro n
  have fin : ∀ p : Int, 0 ≤ p → p ≤ μ 85 31 → (∀ (q : Int × Int) (s : Int), s = (if p = μ 85 31 then 0 else if m_sml (μ 105 p) then 1 else if m_dig (μ 105 p) then 2 else 3) → q = (if s = 3 then (p + 1, μ 105 p) else if s = 1 then m_wd (μ 105) p (μ 85 31 - p).toNat p 0 else if s = 2 then m_dg (μ 105) (μ 85 31 - p).toNat p 0 else (p, 0)) → Rt none (q_tok μ p q.1 s q.2)) → (p = μ 85 31 → S 149 [some (.inr (.inr 85))] [] (q_tok μ p p 0 0)) ∧ (¬ p = μ 85 31 → (m_sml (μ 105 p) → S 149 [some (.inr (.inr 85))] [] (q_tok μ p p 1 0)) ∧ (¬ m_sml (μ 105 p) → (m_dig (μ 105 p) → S 149 [some (.inr (.inr 85))] [] (q_tok μ p p 2 0)) ∧ (¬ m_dig (μ 105 p) → S 149 [some (.inr (.inr 85))] [] (q_tok μ p (p + 1) 3 (μ 105 p))))) := by
    intro p h1 h2 hk
    refine ⟨fun c => ?_, fun c => ⟨fun c1 => ?_, fun c1 => ⟨fun c2 => ?_, fun c2 => ?_⟩⟩⟩
    · refine nx_f hR (by omega) (nx_e hR (by omega) ?_)
      have := hk (p, 0) 0 (by rw [if_pos c]) (by simp)
      exact this
    · refine nx_w hR ht h1 (μ 85 31 - p).toNat p 0 (by omega) (by omega) (fun q e => nx_e hR (by omega) ?_)
      exact hk q 1 (by rw [if_neg c, if_pos c1]) (by simpa using e)
    · refine nx_f hR (by omega) (nx_d hR ht (μ 85 31 - p).toNat p 0 (by omega) (by omega) (by omega) (fun q e => ?_))
      exact hk q 2 (by rw [if_neg c, if_neg c1, if_pos c2]) (by simpa using e)
    · refine nx_f hR (by omega) (nx_e hR (by omega) ?_)
      exact hk (p + 1, μ 105 p) 3 (by rw [if_neg c, if_neg c1, if_neg c2]) (by simp)
  have eU2 := fun st to sort worth v => q_tok_32 μ st to sort worth v
  have eU3 := fun st to sort worth v => q_tok_33 μ st to sort worth v
  have eU4 := fun st to sort worth v => q_tok_34 μ st to sort worth v
  have eU5 := fun st to sort worth v => q_tok_35 μ st to sort worth v
  induction n with
  | zero =>
    intro p h1 h2 hk
    have f := fin p h1 (by omega) (fun q s => hk p q s rfl)
    have ht1 := ht.1
    refine hR 120 b_X11_next_8 8 _ _ _ o_X11_next_8 ?_
    simp only [v_opt_n, v_opt_s, v_nil, v_iconst, v_bipush, v_sipush, v_lconst0, v_lconst1, v_ldc, v_ldcw, v_ldc2, v_iload0, v_iload1, v_iload2, v_iload3, v_iload, v_lload0, v_lload1, v_lload2, v_lload3, v_lload, v_aload0, v_aload1, v_aload2, v_aload3, v_aload, v_istore0, v_istore1, v_istore2, v_istore3, v_istore, v_lstore0, v_lstore1, v_lstore2, v_lstore3, v_lstore, v_astore0, v_astore1, v_astore2, v_astore3, v_astore, v_iinc, v_iadd, v_isub, v_imul, v_iand, v_ior, v_ixor, v_ishl, v_ishr, v_iushr, v_ineg, v_idiv, v_irem, v_ladd, v_lsub, v_lmul, v_lcmp, v_i2l, v_l2i, v_i2c, v_dup, v_dup2, v_if_eq, v_if_ne, v_if_lt, v_if_ge, v_if_gt, v_if_le, v_ic_eq, v_ic_ne, v_ic_lt, v_ic_ge, v_ic_gt, v_ic_le, v_goto, v_tsw, v_lsw, v_ireturn, v_areturn, v_return, v_iaload, v_laload, v_baload, v_caload, v_aaload, v_iastore, v_lastore, v_bastore, v_castore, v_alen, v_invvi, v_invst, v_invsp, e_int, e_lng, e_ref, e_lg0, e_lg1, e_lg2, e_lg3, e_lg4, e_lg5, e_lg6, e_lg7, e_lg8, e_lg9, e_lg10, e_lg11, e_lg12, e_lg13, e_clrI, e_clrJ, e_clrP, e_clrN, e_s0, e_s1, e_s2, e_s3, e_s4, e_s5, e_s6, e_s7, e_s8, e_s9, e_s10, e_s11, e_s12, e_s13, e_t0, e_t1, e_t2, e_t3, e_t4, e_t5, e_t6, e_t7, e_t8, e_t9, e_t10, e_t11, e_t12, e_t13, e_fd, e_kk, e_k0, e_k1, e_k2, e_k3, e_k4, e_k5, e_k6, e_k7, e_k8, e_k9, e_sv0, e_sv1, e_sv2, e_sv3, e_svc, e_pf0, e_pf1, e_pf2, e_pf3, e_ar, e_aa, e_al, e_sw1, e_sw2, e_ct0, e_ct1, e_ct2, e_cat0, e_cat1, e_rk0, e_rk1, e_rk2, e_inv0, e_inv1, e_inv2, e_inv3, e_inv4, e_inv5, e_inv6, e_o0, e_o1, e_cl, e_cle, e_cg, e_cge, e_ce, e_cr1, e_cr2, e_r, e_R, e_up, Int.cast_ofNat_Int, u_app, false_and, and_false, e_b0, e_b1, e_bn, e_bl, e_bu, Int.reduceLE, Int.reduceLT, Int.reduceEq, Int.reduceNeg, Int.reduceAdd, Int.reduceSub, Int.reduceMul, Nat.reduceLeDiff, Nat.reduceLT, Nat.reduceAdd, Nat.reduceEqDiff, true_and, and_true, true_or, or_true, false_or, or_false, forall_const, not_true_eq_false, not_false_eq_true, true_implies, false_implies, implies_true, and_self, zero_ne_one, one_ne_zero, eq_self, reduceIte, s_X11_next_0, b_X11_next_0, s_X11_next_8, b_X11_next_8, s_X11_next_19, b_X11_next_19, s_X11_next_33, b_X11_next_33, s_X11_next_46, b_X11_next_46, s_X11_next_71, b_X11_next_71, s_X11_next_75, b_X11_next_75, s_X11_next_90, b_X11_next_90, s_X11_next_94, b_X11_next_94, s_X11_next_109, b_X11_next_109, s_X11_next_113, b_X11_next_113, s_X11_next_114, b_X11_next_114, s_X11_next_125, b_X11_next_125, s_X11_next_149, b_X11_next_149, s_X11_next_157, b_X11_next_157, s_X11_next_168, b_X11_next_168, s_X11_next_183, b_X11_next_183, s_X11_next_198, b_X11_next_198, s_X11_next_224, b_X11_next_224, s_X11_next_227, b_X11_next_227, s_X11_next_243, b_X11_next_243, s_X11_next_251, b_X11_next_251, s_X11_next_262, b_X11_next_262, s_X11_next_277, b_X11_next_277, s_X11_next_289, b_X11_next_289, s_X11_next_296, b_X11_next_296, s_X11_next_319, b_X11_next_319, s_X11_next_335, b_X11_next_335, g_X11_224, p_X11_224, g_X11_227, p_X11_227, g_X11_218, g_X11_76, g_X11_230, p_X11_230, g_X11_239, p_X11_239, ld_X11_242, ld_X11_244, ld_X11_204, ld_X11_111, ld_X11_246, ld_X11_248, G_X11_next_233, sp_X11_isSmall_e, G_X11_next_236, sp_X11_isDigit_e, u_tok, T_105, eU2, eU3, eU4, eU5]
    refine ⟨by omega, fun c => ⟨by omega, fun c1 => by omega, fun c1 => f.1 c1⟩, fun c => by omega⟩
  | succ n ih =>
    intro p h1 h2 hk
    have ht1 := ht.1
    have ht2 := ht.2 p (by omega) (by omega)
    refine hR 160 b_X11_next_8 8 _ _ _ o_X11_next_8 ?_
    simp only [v_opt_n, v_opt_s, v_nil, v_iconst, v_bipush, v_sipush, v_lconst0, v_lconst1, v_ldc, v_ldcw, v_ldc2, v_iload0, v_iload1, v_iload2, v_iload3, v_iload, v_lload0, v_lload1, v_lload2, v_lload3, v_lload, v_aload0, v_aload1, v_aload2, v_aload3, v_aload, v_istore0, v_istore1, v_istore2, v_istore3, v_istore, v_lstore0, v_lstore1, v_lstore2, v_lstore3, v_lstore, v_astore0, v_astore1, v_astore2, v_astore3, v_astore, v_iinc, v_iadd, v_isub, v_imul, v_iand, v_ior, v_ixor, v_ishl, v_ishr, v_iushr, v_ineg, v_idiv, v_irem, v_ladd, v_lsub, v_lmul, v_lcmp, v_i2l, v_l2i, v_i2c, v_dup, v_dup2, v_if_eq, v_if_ne, v_if_lt, v_if_ge, v_if_gt, v_if_le, v_ic_eq, v_ic_ne, v_ic_lt, v_ic_ge, v_ic_gt, v_ic_le, v_goto, v_tsw, v_lsw, v_ireturn, v_areturn, v_return, v_iaload, v_laload, v_baload, v_caload, v_aaload, v_iastore, v_lastore, v_bastore, v_castore, v_alen, v_invvi, v_invst, v_invsp, e_int, e_lng, e_ref, e_lg0, e_lg1, e_lg2, e_lg3, e_lg4, e_lg5, e_lg6, e_lg7, e_lg8, e_lg9, e_lg10, e_lg11, e_lg12, e_lg13, e_clrI, e_clrJ, e_clrP, e_clrN, e_s0, e_s1, e_s2, e_s3, e_s4, e_s5, e_s6, e_s7, e_s8, e_s9, e_s10, e_s11, e_s12, e_s13, e_t0, e_t1, e_t2, e_t3, e_t4, e_t5, e_t6, e_t7, e_t8, e_t9, e_t10, e_t11, e_t12, e_t13, e_fd, e_kk, e_k0, e_k1, e_k2, e_k3, e_k4, e_k5, e_k6, e_k7, e_k8, e_k9, e_sv0, e_sv1, e_sv2, e_sv3, e_svc, e_pf0, e_pf1, e_pf2, e_pf3, e_ar, e_aa, e_al, e_sw1, e_sw2, e_ct0, e_ct1, e_ct2, e_cat0, e_cat1, e_rk0, e_rk1, e_rk2, e_inv0, e_inv1, e_inv2, e_inv3, e_inv4, e_inv5, e_inv6, e_o0, e_o1, e_cl, e_cle, e_cg, e_cge, e_ce, e_cr1, e_cr2, e_r, e_R, e_up, Int.cast_ofNat_Int, u_app, false_and, and_false, e_b0, e_b1, e_bn, e_bl, e_bu, Int.reduceLE, Int.reduceLT, Int.reduceEq, Int.reduceNeg, Int.reduceAdd, Int.reduceSub, Int.reduceMul, Nat.reduceLeDiff, Nat.reduceLT, Nat.reduceAdd, Nat.reduceEqDiff, true_and, and_true, true_or, or_true, false_or, or_false, forall_const, not_true_eq_false, not_false_eq_true, true_implies, false_implies, implies_true, and_self, zero_ne_one, one_ne_zero, eq_self, reduceIte, s_X11_next_0, b_X11_next_0, s_X11_next_8, b_X11_next_8, s_X11_next_19, b_X11_next_19, s_X11_next_33, b_X11_next_33, s_X11_next_46, b_X11_next_46, s_X11_next_71, b_X11_next_71, s_X11_next_75, b_X11_next_75, s_X11_next_90, b_X11_next_90, s_X11_next_94, b_X11_next_94, s_X11_next_109, b_X11_next_109, s_X11_next_113, b_X11_next_113, s_X11_next_114, b_X11_next_114, s_X11_next_125, b_X11_next_125, s_X11_next_149, b_X11_next_149, s_X11_next_157, b_X11_next_157, s_X11_next_168, b_X11_next_168, s_X11_next_183, b_X11_next_183, s_X11_next_198, b_X11_next_198, s_X11_next_224, b_X11_next_224, s_X11_next_227, b_X11_next_227, s_X11_next_243, b_X11_next_243, s_X11_next_251, b_X11_next_251, s_X11_next_262, b_X11_next_262, s_X11_next_277, b_X11_next_277, s_X11_next_289, b_X11_next_289, s_X11_next_296, b_X11_next_296, s_X11_next_319, b_X11_next_319, s_X11_next_335, b_X11_next_335, g_X11_224, p_X11_224, g_X11_227, p_X11_227, g_X11_218, g_X11_76, g_X11_230, p_X11_230, g_X11_239, p_X11_239, ld_X11_242, ld_X11_244, ld_X11_204, ld_X11_111, ld_X11_246, ld_X11_248, G_X11_next_233, sp_X11_isSmall_e, G_X11_next_236, sp_X11_isDigit_e, u_tok, T_105, eU2, eU3, eU4, eU5]
    refine ⟨by omega, fun c => by omega, fun c => ⟨by omega, by omega, by omega, fun c1 => ?_, fun c1 => ?_⟩⟩
    · have f := fin p h1 (by omega) (fun q s => hk p q s (by
        show p = (if μ 105 p = 32 then m_skp (μ 105) n (p + 1) else p)
        rw [if_neg c1]))
      refine ⟨by omega, fun c2 => ⟨by omega, by omega, by omega, fun c3 => ⟨by omega, by omega, by omega, fun c4 => ⟨by omega, by omega, by omega, ((f.2 c2).2 c3).2 c4⟩, fun c4 => ((f.2 c2).2 c3).1 (Classical.not_not.mp c4)⟩, fun c3 => (f.2 c2).1 (Classical.not_not.mp c3)⟩, fun c2 => f.1 c2⟩
    · refine ih (p + 1) (by omega) (by omega) (fun st q s e => hk st q s ?_)
      show st = (if μ 105 p = 32 then m_skp (μ 105) n (p + 1) else p)
      rw [if_pos c1]
      exact e
set_option maxRecDepth 100000 in
set_option maxHeartbeats 4000000 in
theorem B_X11_next : q_Body cX11_next 1 u_X11_next fl_X11 ld_X11 G_X11_next q_T 4 s_X11_next sp_X11_next := by
  intro S Rt hR ra μ h
  obtain ⟨this, rfl, h⟩ := sp_X11_next_i h
  refine ⟨by simp [q_sl, q_ct], ?_⟩
  show S 0 [some (.inr (.inr this))] [] μ
  obtain ⟨rfl, h1, h2, hk⟩ := h
  have key := nx_s hR (μ := μ) (to := μ 85 33) (so := μ 85 34) (wo := μ 85 35) h1 (μ 85 31 - μ 85 33).toNat (μ 85 33) h2.1 (by omega) (fun st q s e1 e2 e3 => by
    unfold m_nxt m_tw m_sort at hk
    unfold m_st at hk
    rw [← e1, ← e2, ← e3] at hk
    exact hk)
  have e0 : q_up μ 85 32 (μ 85 33) = q_tok μ (μ 85 33) (μ 85 33) (μ 85 34) (μ 85 35) := by
    rw [← q_tok_32 μ (μ 85 32), q_tok_id]
  refine hR 20 [] 0 _ _ _ rfl ?_
  simp only [v_opt_n, v_opt_s, v_nil, v_iconst, v_bipush, v_sipush, v_lconst0, v_lconst1, v_ldc, v_ldcw, v_ldc2, v_iload0, v_iload1, v_iload2, v_iload3, v_iload, v_lload0, v_lload1, v_lload2, v_lload3, v_lload, v_aload0, v_aload1, v_aload2, v_aload3, v_aload, v_istore0, v_istore1, v_istore2, v_istore3, v_istore, v_lstore0, v_lstore1, v_lstore2, v_lstore3, v_lstore, v_astore0, v_astore1, v_astore2, v_astore3, v_astore, v_iinc, v_iadd, v_isub, v_imul, v_iand, v_ior, v_ixor, v_ishl, v_ishr, v_iushr, v_ineg, v_idiv, v_irem, v_ladd, v_lsub, v_lmul, v_lcmp, v_i2l, v_l2i, v_i2c, v_dup, v_dup2, v_if_eq, v_if_ne, v_if_lt, v_if_ge, v_if_gt, v_if_le, v_ic_eq, v_ic_ne, v_ic_lt, v_ic_ge, v_ic_gt, v_ic_le, v_goto, v_tsw, v_lsw, v_ireturn, v_areturn, v_return, v_iaload, v_laload, v_baload, v_caload, v_aaload, v_iastore, v_lastore, v_bastore, v_castore, v_alen, v_invvi, v_invst, v_invsp, e_int, e_lng, e_ref, e_lg0, e_lg1, e_lg2, e_lg3, e_lg4, e_lg5, e_lg6, e_lg7, e_lg8, e_lg9, e_lg10, e_lg11, e_lg12, e_lg13, e_clrI, e_clrJ, e_clrP, e_clrN, e_s0, e_s1, e_s2, e_s3, e_s4, e_s5, e_s6, e_s7, e_s8, e_s9, e_s10, e_s11, e_s12, e_s13, e_t0, e_t1, e_t2, e_t3, e_t4, e_t5, e_t6, e_t7, e_t8, e_t9, e_t10, e_t11, e_t12, e_t13, e_fd, e_kk, e_k0, e_k1, e_k2, e_k3, e_k4, e_k5, e_k6, e_k7, e_k8, e_k9, e_sv0, e_sv1, e_sv2, e_sv3, e_svc, e_pf0, e_pf1, e_pf2, e_pf3, e_ar, e_aa, e_al, e_sw1, e_sw2, e_ct0, e_ct1, e_ct2, e_cat0, e_cat1, e_rk0, e_rk1, e_rk2, e_inv0, e_inv1, e_inv2, e_inv3, e_inv4, e_inv5, e_inv6, e_o0, e_o1, e_cl, e_cle, e_cg, e_cge, e_ce, e_cr1, e_cr2, e_r, e_R, e_up, Int.cast_ofNat_Int, u_app, false_and, and_false, e_b0, e_b1, e_bn, e_bl, e_bu, Int.reduceLE, Int.reduceLT, Int.reduceEq, Int.reduceNeg, Int.reduceAdd, Int.reduceSub, Int.reduceMul, Nat.reduceLeDiff, Nat.reduceLT, Nat.reduceAdd, Nat.reduceEqDiff, true_and, and_true, true_or, or_true, false_or, or_false, forall_const, not_true_eq_false, not_false_eq_true, true_implies, false_implies, implies_true, and_self, zero_ne_one, one_ne_zero, eq_self, reduceIte, s_X11_next_0, b_X11_next_0, s_X11_next_8, b_X11_next_8, s_X11_next_19, b_X11_next_19, s_X11_next_33, b_X11_next_33, s_X11_next_46, b_X11_next_46, s_X11_next_71, b_X11_next_71, s_X11_next_75, b_X11_next_75, s_X11_next_90, b_X11_next_90, s_X11_next_94, b_X11_next_94, s_X11_next_109, b_X11_next_109, s_X11_next_113, b_X11_next_113, s_X11_next_114, b_X11_next_114, s_X11_next_125, b_X11_next_125, s_X11_next_149, b_X11_next_149, s_X11_next_157, b_X11_next_157, s_X11_next_168, b_X11_next_168, s_X11_next_183, b_X11_next_183, s_X11_next_198, b_X11_next_198, s_X11_next_224, b_X11_next_224, s_X11_next_227, b_X11_next_227, s_X11_next_243, b_X11_next_243, s_X11_next_251, b_X11_next_251, s_X11_next_262, b_X11_next_262, s_X11_next_277, b_X11_next_277, s_X11_next_289, b_X11_next_289, s_X11_next_296, b_X11_next_296, s_X11_next_319, b_X11_next_319, s_X11_next_335, b_X11_next_335, g_X11_224, p_X11_224, g_X11_227, p_X11_227, g_X11_218, g_X11_76, g_X11_230, p_X11_230, g_X11_239, p_X11_239, ld_X11_242, ld_X11_244, ld_X11_204, ld_X11_111, ld_X11_246, ld_X11_248, G_X11_next_233, sp_X11_isSmall_e, G_X11_next_236, sp_X11_isDigit_e]
  rw [e0]
  exact key
set_option maxRecDepth 100000 in
theorem C_X11_next {l : Launch} {ad : Int → Nat} {D : va_G} {cy : Nat → ClassId} {Z : State → Prop} (hZ : q_Zg ad Z) : q_Ct l q_T q_N ad D cy Z yX11_next cX11_next 1 none rm_X11_next sp_X11_next := by
  obtain ⟨hf, hg, hld⟩ := q_chkS k_X11_next
  refine q_met (rk := 4) q_wokT (by decide) rfl hf hg hld rfl (q_skS L_X11_next o_X11_next) ?_ ?_ ?_ ?_ B_X11_next
  · intro i hi; exact absurd hi List.not_mem_nil
  · intro i hi; exact absurd hi List.not_mem_nil
  · intro i hi
    have hi : i = 233 ∨ i = 236 := by simpa [u_X11_next] using hi
    rcases hi with rfl | rfl
    · exact q_crS hZ.1 (C_X11_isSmall hZ) cm_X11_isSmall (by decide +kernel) (by decide +kernel) (by decide +kernel) (by decide +kernel) ⟨rfl, rfl⟩ (by decide)
    · exact q_crS hZ.1 (C_X11_isDigit hZ) cm_X11_isDigit (by decide +kernel) (by decide +kernel) (by decide +kernel) (by decide +kernel) ⟨rfl, rfl⟩ (by decide)
  · intro i hi; exact absurd hi List.not_mem_nil
theorem rv_X11_next : q_rcv q_T yX11_next.cls sp_X11_next := by
  intro ra μ K h
  obtain ⟨this, rfl, h⟩ := sp_X11_next_i h
  obtain rfl := h.1
  exact ⟨[], 85, 11, _, _, rfl, T_85, rfl, rfl⟩
theorem cm_X11_next : Cond.code yX11_next cX11_next 1 none ∈ q_tb := by decide +kernel

