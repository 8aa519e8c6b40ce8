/-! the class: reading a text -/
def c_rs (T : Int → Int) (L P : Int) (c : Nat) (ν : QM) : Prop := ∀ m : Nat, m < c → c_rb T L (m_bs T L m).2 m (m_bs T L m).1 (P + 3 + m) ν
def c_df (μ : QM) (P : Int) (ν : QM) : Prop := (∀ a j : Int, ¬ (a = 15 ∧ j = 1) → ¬ (16 ≤ a ∧ a ≤ 19) → ¬ (P ≤ a ∧ a ≤ P + 22) → ν a j = μ a j) ∧ ∀ i k : Int, 0 ≤ i → i < 10 → ν (P + 13 + i) k = μ (P + 13 + i) k ∨ (0 ≤ ν (P + 13 + i) k ∧ ν (P + 13 + i) k < 10)
def sp_X3_read : QP := fun ra μ K => match ra with
  | [.inr (.inr into), .inr (.inr this)] => this = 15 ∧ q_pl into ∧ m_tp (μ 14) (μ 13 1) ∧ ∃ n : Nat, m_run (μ 14) (μ 13 1) n ∧ ∀ ν : QM, c_df μ into ν → ν 15 1 = into → ((m_rs (μ 14) (μ 13 1) n).1 = 0 ∧ m_kd (μ 14) (μ 13 1) (m_rs (μ 14) (μ 13 1) n).2 = 0 → ν into 2 = n + 1 → c_rs (μ 14) (μ 13 1) into (n + 1) ν → K (some (.inl (-1))) ν) ∧ (¬ ((m_rs (μ 14) (μ 13 1) n).1 = 0 ∧ m_kd (μ 14) (μ 13 1) (m_rs (μ 14) (μ 13 1) n).2 = 0) → K (some (.inl (m_pl (μ 14) (μ 13 1) (m_rs (μ 14) (μ 13 1) n).2))) ν)
  | _ => False
theorem sp_X3_read_e (this into : Int) (μ : QM) (K : Option QV → QM → Prop) : sp_X3_read [.inr (.inr into), .inr (.inr this)] μ K = (this = 15 ∧ q_pl into ∧ m_tp (μ 14) (μ 13 1) ∧ ∃ n : Nat, m_run (μ 14) (μ 13 1) n ∧ ∀ ν : QM, c_df μ into ν → ν 15 1 = into → ((m_rs (μ 14) (μ 13 1) n).1 = 0 ∧ m_kd (μ 14) (μ 13 1) (m_rs (μ 14) (μ 13 1) n).2 = 0 → ν into 2 = n + 1 → c_rs (μ 14) (μ 13 1) into (n + 1) ν → K (some (.inl (-1))) ν) ∧ (¬ ((m_rs (μ 14) (μ 13 1) n).1 = 0 ∧ m_kd (μ 14) (μ 13 1) (m_rs (μ 14) (μ 13 1) n).2 = 0) → K (some (.inl (m_pl (μ 14) (μ 13 1) (m_rs (μ 14) (μ 13 1) n).2))) ν)) := propext Iff.rfl
theorem sp_X3_read_i {ra : List QV} {μ : QM} {K : Option QV → QM → Prop} (h : sp_X3_read ra μ K) : ∃ this into : Int, ra = [.inr (.inr into), .inr (.inr this)] ∧ (this = 15 ∧ q_pl into ∧ m_tp (μ 14) (μ 13 1) ∧ ∃ n : Nat, m_run (μ 14) (μ 13 1) n ∧ ∀ ν : QM, c_df μ into ν → ν 15 1 = into → ((m_rs (μ 14) (μ 13 1) n).1 = 0 ∧ m_kd (μ 14) (μ 13 1) (m_rs (μ 14) (μ 13 1) n).2 = 0 → ν into 2 = n + 1 → c_rs (μ 14) (μ 13 1) into (n + 1) ν → K (some (.inl (-1))) ν) ∧ (¬ ((m_rs (μ 14) (μ 13 1) n).1 = 0 ∧ m_kd (μ 14) (μ 13 1) (m_rs (μ 14) (μ 13 1) n).2 = 0) → K (some (.inl (m_pl (μ 14) (μ 13 1) (m_rs (μ 14) (μ 13 1) n).2))) ν)) := by
  unfold sp_X3_read at h
  split at h
  · exact ⟨_, _, rfl, h⟩
  · exact h.elim
def rm_X3_read : Room := { frames := 11, cells := 0, slots := 0, locals := 259 }
def G_X3_read : Nat → Nat × QP := fun i => match i with
  | 24 => (1, sp_X2_clear)
  | 29 => (1, sp_X8_cut)
  | 32 => (1, sp_X3_readBoard)
  | 36 => (1, sp_X8_place)
  | 40 => (1, sp_X8_isEnd)
  | 43 => (2, sp_X8_pass)
  | _ => (0, fun _ _ _ => False)
theorem G_X3_read_24 : G_X3_read 24 = (1, sp_X2_clear) := id rfl
theorem G_X3_read_29 : G_X3_read 29 = (1, sp_X8_cut) := id rfl
theorem G_X3_read_32 : G_X3_read 32 = (1, sp_X3_readBoard) := id rfl
theorem G_X3_read_36 : G_X3_read 36 = (1, sp_X8_place) := id rfl
theorem G_X3_read_40 : G_X3_read 40 = (1, sp_X8_isEnd) := id rfl
theorem G_X3_read_43 : G_X3_read 43 = (2, sp_X8_pass) := id rfl
theorem c_rb_cg {T : Int → Int} {L : Int} {nm : Int → Int} {n i : Nat} {r : Int} {μ ν : QM} (h1 : ∀ j : Int, ν r j = μ r j) (h2 : ∀ j : Int, ν (r + 10) j = μ (r + 10) j) (h : c_rb T L nm n i r μ) : c_rb T L nm n i r ν := by
  obtain ⟨k1, k2, k3, k4, k5⟩ := h
  refine ⟨(h1 2).trans k1, (h1 4).trans k2, fun q => (h1 3).trans (k3 q), (h1 1).trans k4, fun k hk => (h2 k).trans (k5 k hk)⟩
theorem c_df_bf {μ ν ν' : QM} {P : Int} {n : Nat} (hP : q_pl P) (hn : n ≤ 9) (h1 : c_df μ P ν) (h2 : c_bf ν P n ν') : c_df μ P ν' := by
  refine ⟨fun a j n1 n2 n3 => ?_, fun i k i0 i1 => ?_⟩
  · rw [h2.1 a j (by omega) (by omega) (by omega) (by omega)]
    exact h1.1 a j n1 n2 n3
  · by_cases c : i = n
    · rw [c]
      rcases h2.2 k with q | q
      · rw [q]
        exact h1.2 n k (by omega) (by omega)
      · exact Or.inr q
    · rw [h2.1 (P + 13 + i) k (by omega) (by omega) (by omega) (by omega)]
      exact h1.2 i k i0 i1
theorem rd_b {Rt : Option QV → QM → Prop} {S : Nat → QL → List QV → QM → Prop} (hR : q_Rule cX3_read 3 u_X3_read fl_X3 ld_X3 G_X3_read q_T 0 s_X3_read Rt S) {μ ν : QM} {T : Int → Int} {L P : Int} {E b : Nat} (hP : q_pl P) (hb : b ≤ 10) (hk : ¬ m_good T L b → ∀ ν : QM, c_df μ P ν → ν 15 1 = P → ((m_rs T L b).1 = 0 ∧ m_kd T L (m_rs T L b).2 = 0 → ν P 2 = b + 1 → c_rs T L P (b + 1) ν → Rt (some (.inl (-1))) ν) ∧ (¬ ((m_rs T L b).1 = 0 ∧ m_kd T L (m_rs T L b).2 = 0) → Rt (some (.inl (m_pl T L (m_rs T L b).2))) ν)) (g : m_good T L b → ∀ ν : QM, c_df μ P ν → c_nm P (m_bs T L (b + 1)).2 ν → ν P 2 = b + 1 → c_at T L E (m_bs T L (b + 1)).1 ν → c_rs T L P (b + 1) ν → S 21 [some (.inr (.inr 15)), some (.inr (.inr P)), some (.inl ((b : Int) + 1))] [] ν) (hf : c_df μ P ν) (hn : c_nm P (m_bs T L b).2 ν) (hP2 : ν P 2 = b) (hat : c_at T L E (m_bs T L b).1 ν) (hs : c_rs T L P b ν) : S 21 [some (.inr (.inr 15)), some (.inr (.inr P)), some (.inl b)] [] ν := by
  obtain ⟨p1, p2, p3, p4⟩ := id hn
  refine hR 80 b_X3_read_21 21 _ _ _ o_X3_read_21 ?_
  simp only [v_opt_n, v_opt_s, v_nil, v_iconst, v_bipush, v_sipush, v_lconst0, v_lconst1, v_ldc, v_ldcw, v_ldc2, v_iload0, v_iload1, v_iload2, v_iload3, v_iload, v_lload0, v_lload1, v_lload2, v_lload3, v_lload, v_aload0, v_aload1, v_aload2, v_aload3, v_aload, v_istore0, v_istore1, v_istore2, v_istore3, v_istore, v_lstore0, v_lstore1, v_lstore2, v_lstore3, v_lstore, v_astore0, v_astore1, v_astore2, v_astore3, v_astore, v_iinc, v_iadd, v_isub, v_imul, v_iand, v_ior, v_ixor, v_ishl, v_ishr, v_iushr, v_ineg, v_idiv, v_irem, v_ladd, v_lsub, v_lmul, v_lcmp, v_i2l, v_l2i, v_i2c, v_dup, v_dup2, v_if_eq, v_if_ne, v_if_lt, v_if_ge, v_if_gt, v_if_le, v_ic_eq, v_ic_ne, v_ic_lt, v_ic_ge, v_ic_gt, v_ic_le, v_goto, v_tsw, v_lsw, v_ireturn, v_areturn, v_return, v_iaload, v_laload, v_baload, v_caload, v_aaload, v_iastore, v_lastore, v_bastore, v_castore, v_alen, v_invvi, v_invst, v_invsp, e_int, e_lng, e_ref, e_lg0, e_lg1, e_lg2, e_lg3, e_lg4, e_lg5, e_lg6, e_lg7, e_lg8, e_lg9, e_lg10, e_lg11, e_lg12, e_lg13, e_clrI, e_clrJ, e_clrP, e_clrN, e_s0, e_s1, e_s2, e_s3, e_s4, e_s5, e_s6, e_s7, e_s8, e_s9, e_s10, e_s11, e_s12, e_s13, e_t0, e_t1, e_t2, e_t3, e_t4, e_t5, e_t6, e_t7, e_t8, e_t9, e_t10, e_t11, e_t12, e_t13, e_fd, e_kk, e_k0, e_k1, e_k2, e_k3, e_k4, e_k5, e_k6, e_k7, e_k8, e_k9, e_sv0, e_sv1, e_sv2, e_sv3, e_svc, e_pf0, e_pf1, e_pf2, e_pf3, e_ar, e_aa, e_al, e_sw1, e_sw2, e_ct0, e_ct1, e_ct2, e_cat0, e_cat1, e_rk0, e_rk1, e_rk2, e_inv0, e_inv1, e_inv2, e_inv3, e_inv4, e_inv5, e_inv6, e_o0, e_o1, e_cl, e_cle, e_cg, e_cge, e_ce, e_cr1, e_cr2, e_r, e_R, e_up, Int.cast_ofNat_Int, u_app, false_and, and_false, e_b0, e_b1, e_bn, e_bl, e_bu, Int.reduceLE, Int.reduceLT, Int.reduceEq, Int.reduceNeg, Int.reduceAdd, Int.reduceSub, Int.reduceMul, Nat.reduceLeDiff, Nat.reduceLT, Nat.reduceAdd, Nat.reduceEqDiff, true_and, and_true, true_or, or_true, false_or, or_false, forall_const, not_true_eq_false, not_false_eq_true, true_implies, false_implies, implies_true, and_self, zero_ne_one, one_ne_zero, eq_self, reduceIte, s_X3_read_0, b_X3_read_0, s_X3_read_21, b_X3_read_21, s_X3_read_27, b_X3_read_27, s_X3_read_34, b_X3_read_34, s_X3_read_42, b_X3_read_42, s_X3_read_52, b_X3_read_52, s_X3_read_54, b_X3_read_54, s_X3_read_66, b_X3_read_66, s_X3_read_74, b_X3_read_74, s_X3_read_80, b_X3_read_80, g_X3_20, p_X3_20, g_X3_14, G_X3_read_24, sp_X2_clear_e, G_X3_read_29, sp_X8_cut_e, G_X3_read_32, sp_X3_readBoard_e, G_X3_read_36, sp_X8_place_e, G_X3_read_40, sp_X8_isEnd_e, G_X3_read_43, sp_X8_pass_e]
  refine ⟨by omega, fun c => by omega, fun c => ⟨P, (m_bs T L b).2, b, T, L, E, (m_bs T L b).1, hn, hP2, hb, hat, fun ν1 f1 q1 q2 q3 => ?_⟩⟩
  have q1 : c_at T L E (m_rs T L b).2 ν1 := q1
  have e15 : ν1 15 1 = P := (f1.1 15 1 (by omega) (by omega) (by omega) (by omega)).trans p2
  by_cases c9 : b ≤ 9
  · have hf1 := c_df_bf hP c9 hf f1
    refine ⟨fun c1 => ?_, fun c1 => ?_⟩
    · have c1 : (m_rs T L b).1 = 0 := Classical.not_not.mp c1
      obtain ⟨w1, w2, w3, w4⟩ := q3 c1
      have hs1 : c_rs T L P (b + 1) ν1 := fun m hm => by
        by_cases cm : m = b
        · rw [cm]
          exact w4
        · refine c_rb_cg (fun j => ?_) (fun j => ?_) (hs m (by omega))
          · exact f1.1 _ j (by omega) (by omega) (by omega) (by omega)
          · exact f1.1 _ j (by omega) (by omega) (by omega) (by omega)
      refine ⟨T, L, E, (m_rs T L b).2, q1, fun c2 => ⟨T, L, E, (m_rs T L b).2, q1, fun c3 => ?_, fun c3 => ⟨T, L, E, (m_rs T L b).2, q1, ?_⟩⟩, fun c2 => ?_⟩
      · have hE := (c_at_r q1).2.2.1 c2
        refine g ⟨c1, c3⟩ _ ⟨fun a j n1 n2 n3 => ?_, fun i k i0 i1 => ?_⟩ ⟨p1, ?_, fun j j0 j1 => ?_, fun j => ?_⟩ ?_ (c_at_st hE q1) (fun m hm => c_rb_cg (fun j => ?_) (fun j => ?_) (hs1 m hm))
        · rw [u_app, if_neg (by omega)]
          exact hf1.1 a j n1 n2 n3
        · rw [u_app, if_neg (by omega)]
          exact hf1.2 i k i0 i1
        · rw [u_app, if_neg (by omega)]
          exact e15
        · rw [u_app, if_neg (by omega), m_bs_n]
          exact w3 j j0 j1
        · have := m_bs_r T L (b + 1) j
          omega
        · rw [u_app, if_neg (by omega)]
          exact w2
        · rw [u_app, if_neg (by omega)]
        · rw [u_app, if_neg (by omega)]
      · exact (hk (fun q => c3 q.2) ν1 hf1 e15).2 (fun q => c2 q.2)
      · exact (hk (fun q => by have := q.2.1; have c2 := Classical.not_not.mp c2; omega) ν1 hf1 e15).1 ⟨c1, Classical.not_not.mp c2⟩ w2 hs1
    · exact ⟨T, L, E, (m_rs T L b).2, q1, (hk (fun q => c1 q.1) ν1 hf1 e15).2 (fun q => c1 q.1)⟩
  · obtain rfl : b = 10 := by omega
    have h2 : (m_rs T L 10).1 = 1 := m_h1_10 T L _ _ _ (by decide)
    have hf1 : c_df μ P ν1 := by
      have hx : ¬ (m_rdb T L (m_bs T L 10).2 ((10 : Nat) : Int) (m_bs T L 10).1).1 = 0 := fun q => by
        have h2 : (m_rdb T L (m_bs T L 10).2 ((10 : Nat) : Int) (m_bs T L 10).1).1 = 1 := h2
        omega
      have hd : ∀ a j : Int, ¬ (a = 16 ∧ j = 5) → ¬ (a = P ∧ j = 2) → ¬ a = P + 2 → ν1 a j = ν a j := fun a j n1 n2 n3 => f1.1 a j n1 (by omega) n2 n3
      refine ⟨fun a j n1 n2 n3 => ?_, fun i k i0 i1 => ?_⟩
      · rw [hd a j (by omega) (by omega) (by omega)]
        exact hf.1 a j n1 n2 n3
      · rw [hd _ k (by omega) (by omega) (by omega)]
        exact hf.2 i k i0 i1
    refine ⟨fun c1 => absurd (show (m_rs T L 10).1 = 0 from Classical.not_not.mp c1) (by omega), fun c1 => ⟨T, L, E, (m_rs T L 10).2, q1, (hk (fun q => c1 q.1) ν1 hf1 e15).2 (fun q => c1 q.1)⟩⟩
theorem rd_21 {Rt : Option QV → QM → Prop} {S : Nat → QL → List QV → QM → Prop} (hR : q_Rule cX3_read 3 u_X3_read fl_X3 ld_X3 G_X3_read q_T 0 s_X3_read Rt S) {μ : QM} {T : Int → Int} {L P : Int} {E n : Nat} (hP : q_pl P) (hr : m_run T L n) (hk : ∀ ν : QM, c_df μ P ν → ν 15 1 = P → ((m_rs T L n).1 = 0 ∧ m_kd T L (m_rs T L n).2 = 0 → ν P 2 = n + 1 → c_rs T L P (n + 1) ν → Rt (some (.inl (-1))) ν) ∧ (¬ ((m_rs T L n).1 = 0 ∧ m_kd T L (m_rs T L n).2 = 0) → Rt (some (.inl (m_pl T L (m_rs T L n).2))) ν)) : ∀ (d b : Nat) (ν : QM), b + d = n → c_df μ P ν → c_nm P (m_bs T L b).2 ν → ν P 2 = b → c_at T L E (m_bs T L b).1 ν → c_rs T L P b ν → S 21 [some (.inr (.inr 15)), some (.inr (.inr P)), some (.inl b)] [] ν := by
  intro d
  have hn10 := m_run_le hr
  induction d with
  | zero =>
    intro b ν e1 hf hn hP2 hat hs
    obtain rfl : b = n := by omega
    exact rd_b hR hP hn10 (fun _ => hk) (fun q => absurd q hr.2) hf hn hP2 hat hs
  | succ d ih =>
    intro b ν e1 hf hn hP2 hat hs
    have hg := hr.1 b (by omega)
    refine rd_b hR hP (by omega) (fun q => absurd hg q) (fun _ ν1 a1 a2 a3 a4 a5 => ?_) hf hn hP2 hat hs
    have := ih (b + 1) ν1 (by omega) a1 a2 (by rw [a3]; omega) a4 a5
    rw [Int.natCast_add] at this
    exact this
set_option maxRecDepth 100000 in
set_option maxHeartbeats 4000000 in
theorem B_X3_read : q_Body cX3_read 3 u_X3_read fl_X3 ld_X3 G_X3_read q_T 0 s_X3_read sp_X3_read := by
  intro S Rt hR ra μ h
  obtain ⟨this, into, rfl, h⟩ := sp_X3_read_i h
  refine ⟨by simp [q_sl, q_ct], ?_⟩
  show S 0 [some (.inr (.inr this)), some (.inr (.inr into)), none] [] μ
  obtain ⟨rfl, hP, ht, n, hr, hk⟩ := h
  have h0 : 0 ≤ into := by omega
  have eM : ∀ a j : Int, ¬ (a = 15 ∧ j = 1) → ¬ (a = into ∧ j = 2) → ¬ a = into + 2 → q_fill (q_up (q_up μ 15 1 into) into 2 0) (into + 2) 0 26 (-1) a j = μ a j := fun a j n1 n2 n3 => by
    rw [u_fill, if_neg (fun q => n3 q.1), u_app, if_neg n2, u_app, if_neg n1]
  have e14 : q_fill (q_up (q_up μ 15 1 into) into 2 0) (into + 2) 0 26 (-1) 14 = μ 14 := funext fun j => eM 14 j (by omega) (by omega) (by omega)
  have e13 : q_fill (q_up (q_up μ 15 1 into) into 2 0) (into + 2) 0 26 (-1) 13 1 = μ 13 1 := eM 13 1 (by omega) (by omega) (by omega)
  refine hR 40 [] 0 _ _ _ rfl ?_
  simp only [v_opt_n, v_opt_s, v_nil, v_iconst, v_bipush, v_sipush, v_lconst0, v_lconst1, v_ldc, v_ldcw, v_ldc2, v_iload0, v_iload1, v_iload2, v_iload3, v_iload, v_lload0, v_lload1, v_lload2, v_lload3, v_lload, v_aload0, v_aload1, v_aload2, v_aload3, v_aload, v_istore0, v_istore1, v_istore2, v_istore3, v_istore, v_lstore0, v_lstore1, v_lstore2, v_lstore3, v_lstore, v_astore0, v_astore1, v_astore2, v_astore3, v_astore, v_iinc, v_iadd, v_isub, v_imul, v_iand, v_ior, v_ixor, v_ishl, v_ishr, v_iushr, v_ineg, v_idiv, v_irem, v_ladd, v_lsub, v_lmul, v_lcmp, v_i2l, v_l2i, v_i2c, v_dup, v_dup2, v_if_eq, v_if_ne, v_if_lt, v_if_ge, v_if_gt, v_if_le, v_ic_eq, v_ic_ne, v_ic_lt, v_ic_ge, v_ic_gt, v_ic_le, v_goto, v_tsw, v_lsw, v_ireturn, v_areturn, v_return, v_iaload, v_laload, v_baload, v_caload, v_aaload, v_iastore, v_lastore, v_bastore, v_castore, v_alen, v_invvi, v_invst, v_invsp, e_int, e_lng, e_ref, e_lg0, e_lg1, e_lg2, e_lg3, e_lg4, e_lg5, e_lg6, e_lg7, e_lg8, e_lg9, e_lg10, e_lg11, e_lg12, e_lg13, e_clrI, e_clrJ, e_clrP, e_clrN, e_s0, e_s1, e_s2, e_s3, e_s4, e_s5, e_s6, e_s7, e_s8, e_s9, e_s10, e_s11, e_s12, e_s13, e_t0, e_t1, e_t2, e_t3, e_t4, e_t5, e_t6, e_t7, e_t8, e_t9, e_t10, e_t11, e_t12, e_t13, e_fd, e_kk, e_k0, e_k1, e_k2, e_k3, e_k4, e_k5, e_k6, e_k7, e_k8, e_k9, e_sv0, e_sv1, e_sv2, e_sv3, e_svc, e_pf0, e_pf1, e_pf2, e_pf3, e_ar, e_aa, e_al, e_sw1, e_sw2, e_ct0, e_ct1, e_ct2, e_cat0, e_cat1, e_rk0, e_rk1, e_rk2, e_inv0, e_inv1, e_inv2, e_inv3, e_inv4, e_inv5, e_inv6, e_o0, e_o1, e_cl, e_cle, e_cg, e_cge, e_ce, e_cr1, e_cr2, e_r, e_R, e_up, Int.cast_ofNat_Int, u_app, false_and, and_false, e_b0, e_b1, e_bn, e_bl, e_bu, Int.reduceLE, Int.reduceLT, Int.reduceEq, Int.reduceNeg, Int.reduceAdd, Int.reduceSub, Int.reduceMul, Nat.reduceLeDiff, Nat.reduceLT, Nat.reduceAdd, Nat.reduceEqDiff, true_and, and_true, true_or, or_true, false_or, or_false, forall_const, not_true_eq_false, not_false_eq_true, true_implies, false_implies, implies_true, and_self, zero_ne_one, one_ne_zero, eq_self, reduceIte, s_X3_read_0, b_X3_read_0, s_X3_read_21, b_X3_read_21, s_X3_read_27, b_X3_read_27, s_X3_read_34, b_X3_read_34, s_X3_read_42, b_X3_read_42, s_X3_read_52, b_X3_read_52, s_X3_read_54, b_X3_read_54, s_X3_read_66, b_X3_read_66, s_X3_read_74, b_X3_read_74, s_X3_read_80, b_X3_read_80, g_X3_20, p_X3_20, g_X3_14, G_X3_read_24, sp_X2_clear_e, G_X3_read_29, sp_X8_cut_e, G_X3_read_32, sp_X3_readBoard_e, G_X3_read_36, sp_X8_place_e, G_X3_read_40, sp_X8_isEnd_e, G_X3_read_43, sp_X8_pass_e, e13, e14]
  refine ⟨h0, hP, ht, fun E ν f q1 q2 => ?_⟩
  refine rd_21 (μ := μ) (E := E) hR hP hr hk n 0 ν (by omega) ⟨fun a j n1 n2 n3 => ?_, fun i k i0 i1 => Or.inl ?_⟩ ⟨hP, ?_, fun j j0 j1 => ?_, fun j => ?_⟩ ?_ ⟨ht, q2, Nat.zero_le _, q1⟩ (fun m hm => by omega)
  · rw [f a j (by omega) (by omega) (by omega) (by omega)]
    exact eM a j n1 (by omega) (by omega)
  · rw [f _ k (by omega) (by omega) (by omega) (by omega)]
    exact eM _ k (by omega) (by omega) (by omega)
  · rw [f 15 1 (by omega) (by omega) (by omega) (by omega), u_fill, if_neg (by omega), u_app, if_neg (by omega), u_app, if_pos ⟨rfl, rfl⟩]
  · rw [f _ j (by omega) (by omega) (by omega) (by omega), u_fill, if_pos ⟨rfl, j0, j1⟩]
    rfl
  · have := m_bs_r (μ 14) (μ 13 1) 0 j
    omega
  · rw [f into 2 (by omega) (by omega) (by omega) (by omega), u_fill, if_neg (by omega), u_app, if_pos ⟨rfl, rfl⟩]
    rfl

