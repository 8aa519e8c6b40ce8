/-! the class: from -/
def sp_X10_from : QP := fun ra μ K => match ra with
  | [.inl sheet, .inl tile, .inl board, .inr (.inr this)] => this = 0 ∧ (q_r board ∧ q_r tile ∧ q_r sheet) ∧ ∃ P w h : Int, c_wk μ P w h (μ P 2) ∧ μ 0 5 = P ∧ (0 ≤ μ P 2 ∧ μ P 2 ≤ 10) ∧ (¬ ((0 ≤ board ∧ board < μ P 2) ∧ m_tl w h tile ∧ 0 ≤ sheet ∧ sheet < 4) → K (some (.inl (-1))) μ) ∧ ((0 ≤ board ∧ board < μ P 2) ∧ m_tl w h tile ∧ 0 ≤ sheet ∧ sheet < 4 → K (some (.inl (m_from w h (c_kM μ P) (c_rM μ P) (c_mM μ P) (c_oM μ P) board tile sheet))) (q_blk μ 22 10 (m_nd w h (c_kM μ P) (c_mM μ P) (c_oM μ P) board tile)))
  | _ => False
theorem sp_X10_from_e (this board tile sheet : Int) (μ : QM) (K : Option QV → QM → Prop) : sp_X10_from [.inl sheet, .inl tile, .inl board, .inr (.inr this)] μ K = (this = 0 ∧ (q_r board ∧ q_r tile ∧ q_r sheet) ∧ ∃ P w h : Int, c_wk μ P w h (μ P 2) ∧ μ 0 5 = P ∧ (0 ≤ μ P 2 ∧ μ P 2 ≤ 10) ∧ (¬ ((0 ≤ board ∧ board < μ P 2) ∧ m_tl w h tile ∧ 0 ≤ sheet ∧ sheet < 4) → K (some (.inl (-1))) μ) ∧ ((0 ≤ board ∧ board < μ P 2) ∧ m_tl w h tile ∧ 0 ≤ sheet ∧ sheet < 4 → K (some (.inl (m_from w h (c_kM μ P) (c_rM μ P) (c_mM μ P) (c_oM μ P) board tile sheet))) (q_blk μ 22 10 (m_nd w h (c_kM μ P) (c_mM μ P) (c_oM μ P) board tile)))) := propext Iff.rfl
theorem sp_X10_from_i {ra : List QV} {μ : QM} {K : Option QV → QM → Prop} (h : sp_X10_from ra μ K) : ∃ this board tile sheet : Int, ra = [.inl sheet, .inl tile, .inl board, .inr (.inr this)] ∧ (this = 0 ∧ (q_r board ∧ q_r tile ∧ q_r sheet) ∧ ∃ P w h : Int, c_wk μ P w h (μ P 2) ∧ μ 0 5 = P ∧ (0 ≤ μ P 2 ∧ μ P 2 ≤ 10) ∧ (¬ ((0 ≤ board ∧ board < μ P 2) ∧ m_tl w h tile ∧ 0 ≤ sheet ∧ sheet < 4) → K (some (.inl (-1))) μ) ∧ ((0 ≤ board ∧ board < μ P 2) ∧ m_tl w h tile ∧ 0 ≤ sheet ∧ sheet < 4 → K (some (.inl (m_from w h (c_kM μ P) (c_rM μ P) (c_mM μ P) (c_oM μ P) board tile sheet))) (q_blk μ 22 10 (m_nd w h (c_kM μ P) (c_mM μ P) (c_oM μ P) board tile)))) := by
  unfold sp_X10_from at h
  split at h
  · exact ⟨_, _, _, _, rfl, h⟩
  · exact h.elim
def rm_X10_from : Room := { frames := 4, cells := 0, slots := 0, locals := 96 }
def G_X10_from : Nat → Nat × QP := fun i => match i with
  | 126 => (2, sp_X2_has)
  | 138 => (2, sp_X0_hasTile)
  | 144 => (4, sp_X9_sources)
  | 84 => (1, sp_X10_isSheet)
  | _ => (0, fun _ _ _ => False)
theorem G_X10_from_126 : G_X10_from 126 = (2, sp_X2_has) := id rfl
theorem G_X10_from_138 : G_X10_from 138 = (2, sp_X0_hasTile) := id rfl
theorem G_X10_from_144 : G_X10_from 144 = (4, sp_X9_sources) := id rfl
theorem G_X10_from_84 : G_X10_from 84 = (1, sp_X10_isSheet) := id rfl
set_option maxRecDepth 100000 in
set_option maxHeartbeats 4000000 in
theorem B_X10_from : q_Body cX10_from 4 u_X10_from fl_X10 ld_X10 G_X10_from q_T 0 s_X10_from sp_X10_from := by
  intro S Rt hR ra μ h
  obtain ⟨this, board, tile, sheet, rfl, h⟩ := sp_X10_from_i h
  refine ⟨by simp [q_sl, q_ct], ?_⟩
  show S 0 [some (.inr (.inr this)), some (.inl board), some (.inl tile), some (.inl sheet)] [] μ
  obtain ⟨rfl, ⟨h1, h2, h3⟩, P, w, h9, ⟨hP, h5, htm, hr⟩, e5, hl, hk0, hk⟩ := h
  have hmk := q_mk_tm w h9
  have htl : ∀ t : Int, (0 ≤ t ∧ t < 9 ∧ q_bit (μ 1 2) t.toNat = true) ↔ m_tl w h9 t := fun t => by
    rw [htm]
    constructor
    · intro q
      have q1 := q.2.2
      rw [q_tm_bit] at q1
      have q2 := of_decide_eq_true q1
      rw [show ((t.toNat : Nat) : Int) = t by omega] at q2
      exact q2
    · intro q
      refine ⟨by omega, by omega, ?_⟩
      rw [q_tm_bit, show ((t.toNat : Nat) : Int) = t by omega]
      exact decide_eq_true q
  refine hR 60 [] 0 _ _ _ rfl ?_
  simp only [v_opt_n, v_opt_s, v_nil, v_iconst, v_bipush, v_sipush, v_lconst0, v_lconst1, v_ldc, v_ldcw, v_ldc2, v_iload0, v_iload1, v_iload2, v_iload3, v_iload, v_lload0, v_lload1, v_lload2, v_lload3, v_lload, v_aload0, v_aload1, v_aload2, v_aload3, v_aload, v_istore0, v_istore1, v_istore2, v_istore3, v_istore, v_lstore0, v_lstore1, v_lstore2, v_lstore3, v_lstore, v_astore0, v_astore1, v_astore2, v_astore3, v_astore, v_iinc, v_iadd, v_isub, v_imul, v_iand, v_ior, v_ixor, v_ishl, v_ishr, v_iushr, v_ineg, v_idiv, v_irem, v_ladd, v_lsub, v_lmul, v_lcmp, v_i2l, v_l2i, v_i2c, v_dup, v_dup2, v_if_eq, v_if_ne, v_if_lt, v_if_ge, v_if_gt, v_if_le, v_ic_eq, v_ic_ne, v_ic_lt, v_ic_ge, v_ic_gt, v_ic_le, v_goto, v_tsw, v_lsw, v_ireturn, v_areturn, v_return, v_iaload, v_laload, v_baload, v_caload, v_aaload, v_iastore, v_lastore, v_bastore, v_castore, v_alen, v_invvi, v_invst, v_invsp, e_int, e_lng, e_ref, e_lg0, e_lg1, e_lg2, e_lg3, e_lg4, e_lg5, e_lg6, e_lg7, e_lg8, e_lg9, e_lg10, e_lg11, e_lg12, e_lg13, e_clrI, e_clrJ, e_clrP, e_clrN, e_s0, e_s1, e_s2, e_s3, e_s4, e_s5, e_s6, e_s7, e_s8, e_s9, e_s10, e_s11, e_s12, e_s13, e_t0, e_t1, e_t2, e_t3, e_t4, e_t5, e_t6, e_t7, e_t8, e_t9, e_t10, e_t11, e_t12, e_t13, e_fd, e_kk, e_k0, e_k1, e_k2, e_k3, e_k4, e_k5, e_k6, e_k7, e_k8, e_k9, e_sv0, e_sv1, e_sv2, e_sv3, e_svc, e_pf0, e_pf1, e_pf2, e_pf3, e_ar, e_aa, e_al, e_sw1, e_sw2, e_ct0, e_ct1, e_ct2, e_cat0, e_cat1, e_rk0, e_rk1, e_rk2, e_inv0, e_inv1, e_inv2, e_inv3, e_inv4, e_inv5, e_inv6, e_o0, e_o1, e_cl, e_cle, e_cg, e_cge, e_ce, e_cr1, e_cr2, e_r, e_R, e_up, Int.cast_ofNat_Int, u_app, false_and, and_false, e_b0, e_b1, e_bn, e_bl, e_bu, Int.reduceLE, Int.reduceLT, Int.reduceEq, Int.reduceNeg, Int.reduceAdd, Int.reduceSub, Int.reduceMul, Nat.reduceLeDiff, Nat.reduceLT, Nat.reduceAdd, Nat.reduceEqDiff, true_and, and_true, true_or, or_true, false_or, or_false, forall_const, not_true_eq_false, not_false_eq_true, true_implies, false_implies, implies_true, and_self, zero_ne_one, one_ne_zero, eq_self, reduceIte, s_X10_from_0, b_X10_from_0, s_X10_from_11, b_X10_from_11, s_X10_from_22, b_X10_from_22, s_X10_from_29, b_X10_from_29, s_X10_from_31, b_X10_from_31, g_X10_33, g_X10_12, g_X10_54, G_X10_from_126, sp_X2_has_e, G_X10_from_138, sp_X0_hasTile_e, G_X10_from_144, sp_X9_sources_e, G_X10_from_84, sp_X10_isSheet_e, e5]
  refine ⟨hP, ⟨h1, by omega⟩, fun c => hk0 (fun q => c q.1), fun c => ⟨h2, by rw [htm]; exact hmk, fun c1 => hk0 (fun q => c1 ((htl tile).mpr q.2.1)), fun c1 => ⟨h3, fun c2 => ?_, fun c2 => ?_⟩⟩⟩
  · have c := Classical.not_not.mp c
    have c1 := (htl tile).mp (Classical.not_not.mp c1)
    have c2 := Classical.not_not.mp c2
    exact ⟨⟨c.1, by omega⟩, h3, P, w, h9, ⟨hP, h5, htm, fun b b0 b1 => hr b b0 (by omega)⟩, c1, hk ⟨c, c1, c2⟩⟩
  · exact hk0 (fun q => c2 q.2.2)
set_option maxRecDepth 100000 in
theorem C_X10_from {l : Launch} {ad : Int → Nat} {D : va_G} {cy : Nat → ClassId} {Z : State → Prop} (hZ : q_Zg ad Z) : q_Ct l q_T q_N ad D cy Z yX10_from cX10_from 4 (some .int) rm_X10_from sp_X10_from := by
  obtain ⟨hf, hg, hld⟩ := q_chkS k_X10_from
  refine q_met (rk := 0) q_wokT (by decide) rfl hf hg hld rfl (q_skS L_X10_from o_X10_from) ?_ ?_ ?_ ?_ B_X10_from
  · intro i hi; exact absurd hi List.not_mem_nil
  · intro i hi
    have hi : i = 126 ∨ i = 138 ∨ i = 144 := by simpa [u_X10_from] using hi
    rcases hi with rfl | rfl | rfl
    · exact q_crV hZ.1 (C_X2_has hZ) rv_X2_has cm_X2_has (by decide +kernel) (by decide +kernel) (by decide +kernel) (by decide +kernel) (by decide +kernel) ⟨rfl, rfl⟩ (by decide)
    · exact q_crV hZ.1 (C_X0_hasTile hZ) rv_X0_hasTile cm_X0_hasTile (by decide +kernel) (by decide +kernel) (by decide +kernel) (by decide +kernel) (by decide +kernel) ⟨rfl, rfl⟩ (by decide)
    · exact q_crV hZ.1 (C_X9_sources hZ) rv_X9_sources cm_X9_sources (by decide +kernel) (by decide +kernel) (by decide +kernel) (by decide +kernel) (by decide +kernel) ⟨rfl, rfl⟩ (by decide)
  · intro i hi
    have hi : i = 84 := by simpa [u_X10_from] using hi
    rcases hi with rfl
    · exact q_crS hZ.1 (C_X10_isSheet hZ) cm_X10_isSheet (by decide +kernel) (by decide +kernel) (by decide +kernel) (by decide +kernel) ⟨rfl, rfl⟩ (by decide)
  · intro i hi; exact absurd hi List.not_mem_nil
theorem rv_X10_from : q_rcv q_T yX10_from.cls sp_X10_from := by
  intro ra μ K h
  obtain ⟨this, board, tile, sheet, rfl, h⟩ := sp_X10_from_i h
  obtain rfl := h.1
  exact ⟨[.inl sheet, .inl tile, .inl board], 0, 10, _, _, rfl, T_0, rfl, rfl⟩
theorem cm_X10_from : Cond.code yX10_from cX10_from 4 (some .int) ∈ q_tb := by decide +kernel

