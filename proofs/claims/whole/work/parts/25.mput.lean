/-! the reference: from, put, back, size, tell and the small public methods -/
/-- the tiles of a sheet that a tile comes from: over boards 0 to n - 1 -/
def m_frn (kd rn : Int → Int) (nd : Int → Int) (sheet : Int) : Nat → Int
  | 0 => 0
  | n + 1 => q_or (m_frn kd rn nd sheet n) (if kd (n : Int) = 0 ∧ rn (n : Int) = sheet then nd (n : Int) else 0)
def m_from (w h : Int) (kd rn mn : Int → Int) (of : Int → Int → Int) (board tile sheet : Int) : Int := m_frn kd rn (m_nd w h kd mn of board tile) sheet (board + 1).toNat
theorem m_frn_sub {w h : Int} {kd rn nd : Int → Int} {sheet : Int} (hn : ∀ j, m_sub w h (nd j)) : ∀ n, m_sub w h (m_frn kd rn nd sheet n)
  | 0 => m_sub_0 w h
  | n + 1 => by
    unfold m_frn
    refine m_sub_or (m_frn_sub hn n) ?_
    split
    · exact hn _
    · exact m_sub_0 w h
theorem m_from_sub {w h : Int} {kd rn mn : Int → Int} {of : Int → Int → Int} {board tile sheet : Int} (ht : m_tl w h tile) : m_sub w h (m_from w h kd rn mn of board tile sheet) := m_frn_sub (m_nd_sub ht) _
def sp_X11_fromOf : QP := fun ra μ K => match ra with
  | [.inl sheet, .inl tile, .inl board, .inr (.inr this)] => this = 85 ∧ (0 ≤ board ∧ board < 10) ∧ q_r sheet ∧ m_dim (μ 85 2) (μ 85 3) ∧ m_tl (μ 85 2) (μ 85 3) tile ∧ m_rok (μ 89) (μ 91) (μ 93) (fun b k => μ 92 (3 * b + k)) (board + 1) ∧ K (some (.inl (m_from (μ 85 2) (μ 85 3) (μ 89) (μ 91) (μ 93) (fun b k => μ 92 (3 * b + k)) board tile sheet))) (q_blk μ 95 10 (m_nd (μ 85 2) (μ 85 3) (μ 89) (μ 93) (fun b k => μ 92 (3 * b + k)) board tile))
  | _ => False
theorem sp_X11_fromOf_e (this board tile sheet : Int) (μ : QM) (K : Option QV → QM → Prop) : sp_X11_fromOf [.inl sheet, .inl tile, .inl board, .inr (.inr this)] μ K = (this = 85 ∧ (0 ≤ board ∧ board < 10) ∧ q_r sheet ∧ m_dim (μ 85 2) (μ 85 3) ∧ m_tl (μ 85 2) (μ 85 3) tile ∧ m_rok (μ 89) (μ 91) (μ 93) (fun b k => μ 92 (3 * b + k)) (board + 1) ∧ K (some (.inl (m_from (μ 85 2) (μ 85 3) (μ 89) (μ 91) (μ 93) (fun b k => μ 92 (3 * b + k)) board tile sheet))) (q_blk μ 95 10 (m_nd (μ 85 2) (μ 85 3) (μ 89) (μ 93) (fun b k => μ 92 (3 * b + k)) board tile))) := propext Iff.rfl
theorem sp_X11_fromOf_i {ra : List QV} {μ : QM} {K : Option QV → QM → Prop} (h : sp_X11_fromOf ra μ K) : ∃ this board tile sheet : Int, ra = [.inl sheet, .inl tile, .inl board, .inr (.inr this)] ∧ (this = 85 ∧ (0 ≤ board ∧ board < 10) ∧ q_r sheet ∧ m_dim (μ 85 2) (μ 85 3) ∧ m_tl (μ 85 2) (μ 85 3) tile ∧ m_rok (μ 89) (μ 91) (μ 93) (fun b k => μ 92 (3 * b + k)) (board + 1) ∧ K (some (.inl (m_from (μ 85 2) (μ 85 3) (μ 89) (μ 91) (μ 93) (fun b k => μ 92 (3 * b + k)) board tile sheet))) (q_blk μ 95 10 (m_nd (μ 85 2) (μ 85 3) (μ 89) (μ 93) (fun b k => μ 92 (3 * b + k)) board tile))) := by
  unfold sp_X11_fromOf at h
  split at h
  · exact ⟨_, _, _, _, rfl, h⟩
  · exact h.elim
def rm_X11_fromOf : Room := { frames := 5, cells := 0, slots := 0, locals := 121 }
def G_X11_fromOf : Nat → Nat × QP := fun i => match i with
  | 145 => (3, sp_X11_findNeeds)
  | _ => (0, fun _ _ _ => False)
theorem G_X11_fromOf_145 : G_X11_fromOf 145 = (3, sp_X11_findNeeds) := id rfl
set_option maxRecDepth 100000 in
theorem fr_b {Rt : Option QV → QM → Prop} {S : Nat → QL → List QV → QM → Prop} (hR : q_Rule cX11_fromOf 6 u_X11_fromOf fl_X11 ld_X11 G_X11_fromOf q_T 0 s_X11_fromOf Rt S) {μ : QM} {B t s : Int} {nd : Int → Int} (hB : 0 ≤ B ∧ B < 10) (hs : q_r s) (hr : m_rok (μ 89) (μ 91) (μ 93) (fun b k => μ 92 (3 * b + k)) (B + 1)) (hk : Rt (some (.inl (m_frn (μ 89) (μ 91) nd s (B + 1).toNat))) (q_blk μ 95 10 nd)) : ∀ (d b : Nat), b + d = (B + 1).toNat → S 12 [some (.inr (.inr 85)), some (.inl B), some (.inl t), some (.inl s), some (.inl (m_frn (μ 89) (μ 91) nd s b)), some (.inl (b : Int))] [] (q_blk μ 95 10 nd) := by
  intro d
  induction d with
  | zero =>
    intro b h1
    obtain rfl : b = (B + 1).toNat := by omega
    refine hR 60 b_X11_fromOf_12 12 _ _ _ o_X11_fromOf_12 ?_
    simp only [v_opt_n, v_opt_s, v_nil, v_iconst, v_bipush, v_sipush, v_lconst0, v_lconst1, v_ldc, v_ldcw, v_ldc2, v_iload0, v_iload1, v_iload2, v_iload3, v_iload, v_lload0, v_lload1, v_lload2, v_lload3, v_lload, v_aload0, v_aload1, v_aload2, v_aload3, v_aload, v_istore0, v_istore1, v_istore2, v_istore3, v_istore, v_lstore0, v_lstore1, v_lstore2, v_lstore3, v_lstore, v_astore0, v_astore1, v_astore2, v_astore3, v_astore, v_iinc, v_iadd, v_isub, v_imul, v_iand, v_ior, v_ixor, v_ishl, v_ishr, v_iushr, v_ineg, v_idiv, v_irem, v_ladd, v_lsub, v_lmul, v_lcmp, v_i2l, v_l2i, v_i2c, v_dup, v_dup2, v_if_eq, v_if_ne, v_if_lt, v_if_ge, v_if_gt, v_if_le, v_ic_eq, v_ic_ne, v_ic_lt, v_ic_ge, v_ic_gt, v_ic_le, v_goto, v_tsw, v_lsw, v_ireturn, v_areturn, v_return, v_iaload, v_laload, v_baload, v_caload, v_aaload, v_iastore, v_lastore, v_bastore, v_castore, v_alen, v_invvi, v_invst, v_invsp, e_int, e_lng, e_ref, e_lg0, e_lg1, e_lg2, e_lg3, e_lg4, e_lg5, e_lg6, e_lg7, e_lg8, e_lg9, e_lg10, e_lg11, e_lg12, e_lg13, e_clrI, e_clrJ, e_clrP, e_clrN, e_s0, e_s1, e_s2, e_s3, e_s4, e_s5, e_s6, e_s7, e_s8, e_s9, e_s10, e_s11, e_s12, e_s13, e_t0, e_t1, e_t2, e_t3, e_t4, e_t5, e_t6, e_t7, e_t8, e_t9, e_t10, e_t11, e_t12, e_t13, e_fd, e_kk, e_k0, e_k1, e_k2, e_k3, e_k4, e_k5, e_k6, e_k7, e_k8, e_k9, e_sv0, e_sv1, e_sv2, e_sv3, e_svc, e_pf0, e_pf1, e_pf2, e_pf3, e_ar, e_aa, e_al, e_sw1, e_sw2, e_ct0, e_ct1, e_ct2, e_cat0, e_cat1, e_rk0, e_rk1, e_rk2, e_inv0, e_inv1, e_inv2, e_inv3, e_inv4, e_inv5, e_inv6, e_o0, e_o1, e_cl, e_cle, e_cg, e_cge, e_ce, e_cr1, e_cr2, e_r, e_R, e_up, Int.cast_ofNat_Int, u_app, false_and, and_false, e_b0, e_b1, e_bn, e_bl, e_bu, Int.reduceLE, Int.reduceLT, Int.reduceEq, Int.reduceNeg, Int.reduceAdd, Int.reduceSub, Int.reduceMul, Nat.reduceLeDiff, Nat.reduceLT, Nat.reduceAdd, Nat.reduceEqDiff, true_and, and_true, true_or, or_true, false_or, or_false, forall_const, not_true_eq_false, not_false_eq_true, true_implies, false_implies, implies_true, and_self, zero_ne_one, one_ne_zero, eq_self, reduceIte, s_X11_fromOf_0, b_X11_fromOf_0, s_X11_fromOf_12, b_X11_fromOf_12, s_X11_fromOf_18, b_X11_fromOf_18, s_X11_fromOf_30, b_X11_fromOf_30, s_X11_fromOf_41, b_X11_fromOf_41, s_X11_fromOf_51, b_X11_fromOf_51, s_X11_fromOf_52, b_X11_fromOf_52, s_X11_fromOf_61, b_X11_fromOf_61, g_X11_27, g_X11_33, g_X11_45, G_X11_fromOf_145, sp_X11_findNeeds_e, T_95, T_89, T_91, u_blk]
    exact ⟨by omega, fun _ => hk, fun c => by omega⟩
  | succ d ih =>
    intro b h1
    obtain ⟨r1, r2, r3, r4, r5, r6⟩ := hr b (by omega) (by omega)
    have hc : 0 ≤ (b : Int) ∧ (b : Int) < 10 := by omega
    have e1 : ((b + 1 : Nat) : Int) = (b : Int) + 1 := by omega
    have e2 : m_frn (μ 89) (μ 91) nd s (b + 1) = q_or (m_frn (μ 89) (μ 91) nd s b) (if μ 89 (b : Int) = 0 ∧ μ 91 (b : Int) = s then nd (b : Int) else 0) := rfl
    have ih := ih (b + 1) (by omega)
    rw [e1, e2] at ih
    refine hR 60 b_X11_fromOf_12 12 _ _ _ o_X11_fromOf_12 ?_
    simp only [v_opt_n, v_opt_s, v_nil, v_iconst, v_bipush, v_sipush, v_lconst0, v_lconst1, v_ldc, v_ldcw, v_ldc2, v_iload0, v_iload1, v_iload2, v_iload3, v_iload, v_lload0, v_lload1, v_lload2, v_lload3, v_lload, v_aload0, v_aload1, v_aload2, v_aload3, v_aload, v_istore0, v_istore1, v_istore2, v_istore3, v_istore, v_lstore0, v_lstore1, v_lstore2, v_lstore3, v_lstore, v_astore0, v_astore1, v_astore2, v_astore3, v_astore, v_iinc, v_iadd, v_isub, v_imul, v_iand, v_ior, v_ixor, v_ishl, v_ishr, v_iushr, v_ineg, v_idiv, v_irem, v_ladd, v_lsub, v_lmul, v_lcmp, v_i2l, v_l2i, v_i2c, v_dup, v_dup2, v_if_eq, v_if_ne, v_if_lt, v_if_ge, v_if_gt, v_if_le, v_ic_eq, v_ic_ne, v_ic_lt, v_ic_ge, v_ic_gt, v_ic_le, v_goto, v_tsw, v_lsw, v_ireturn, v_areturn, v_return, v_iaload, v_laload, v_baload, v_caload, v_aaload, v_iastore, v_lastore, v_bastore, v_castore, v_alen, v_invvi, v_invst, v_invsp, e_int, e_lng, e_ref, e_lg0, e_lg1, e_lg2, e_lg3, e_lg4, e_lg5, e_lg6, e_lg7, e_lg8, e_lg9, e_lg10, e_lg11, e_lg12, e_lg13, e_clrI, e_clrJ, e_clrP, e_clrN, e_s0, e_s1, e_s2, e_s3, e_s4, e_s5, e_s6, e_s7, e_s8, e_s9, e_s10, e_s11, e_s12, e_s13, e_t0, e_t1, e_t2, e_t3, e_t4, e_t5, e_t6, e_t7, e_t8, e_t9, e_t10, e_t11, e_t12, e_t13, e_fd, e_kk, e_k0, e_k1, e_k2, e_k3, e_k4, e_k5, e_k6, e_k7, e_k8, e_k9, e_sv0, e_sv1, e_sv2, e_sv3, e_svc, e_pf0, e_pf1, e_pf2, e_pf3, e_ar, e_aa, e_al, e_sw1, e_sw2, e_ct0, e_ct1, e_ct2, e_cat0, e_cat1, e_rk0, e_rk1, e_rk2, e_inv0, e_inv1, e_inv2, e_inv3, e_inv4, e_inv5, e_inv6, e_o0, e_o1, e_cl, e_cle, e_cg, e_cge, e_ce, e_cr1, e_cr2, e_r, e_R, e_up, Int.cast_ofNat_Int, u_app, false_and, and_false, e_b0, e_b1, e_bn, e_bl, e_bu, Int.reduceLE, Int.reduceLT, Int.reduceEq, Int.reduceNeg, Int.reduceAdd, Int.reduceSub, Int.reduceMul, Nat.reduceLeDiff, Nat.reduceLT, Nat.reduceAdd, Nat.reduceEqDiff, true_and, and_true, true_or, or_true, false_or, or_false, forall_const, not_true_eq_false, not_false_eq_true, true_implies, false_implies, implies_true, and_self, zero_ne_one, one_ne_zero, eq_self, reduceIte, s_X11_fromOf_0, b_X11_fromOf_0, s_X11_fromOf_12, b_X11_fromOf_12, s_X11_fromOf_18, b_X11_fromOf_18, s_X11_fromOf_30, b_X11_fromOf_30, s_X11_fromOf_41, b_X11_fromOf_41, s_X11_fromOf_51, b_X11_fromOf_51, s_X11_fromOf_52, b_X11_fromOf_52, s_X11_fromOf_61, b_X11_fromOf_61, g_X11_27, g_X11_33, g_X11_45, G_X11_fromOf_145, sp_X11_findNeeds_e, T_95, T_89, T_91, u_blk, hc]
    refine ⟨by omega, fun c => by omega, fun c => ⟨by omega, fun c1 => ?_, fun c1 => ⟨by omega, fun c2 => ?_, fun c2 => ⟨by omega, ?_⟩⟩⟩⟩
    · rw [if_neg (by omega)] at ih
      exact ih
    · rw [if_neg (by omega)] at ih
      exact ih
    · rw [if_pos ⟨c1, c2⟩] at ih
      exact ih
set_option maxRecDepth 100000 in
set_option maxHeartbeats 4000000 in
theorem B_X11_fromOf : q_Body cX11_fromOf 6 u_X11_fromOf fl_X11 ld_X11 G_X11_fromOf q_T 0 s_X11_fromOf sp_X11_fromOf := by
  intro S Rt hR ra μ h
  obtain ⟨this, board, tile, sheet, rfl, h⟩ := sp_X11_fromOf_i h
  refine ⟨by simp [q_sl, q_ct], ?_⟩
  show S 0 [some (.inr (.inr this)), some (.inl board), some (.inl tile), some (.inl sheet), none, none] [] μ
  obtain ⟨rfl, h1, h2, h3, h4, h5, hk⟩ := h
  refine hR 60 [] 0 _ _ _ rfl ?_
  simp only [v_opt_n, v_opt_s, v_nil, v_iconst, v_bipush, v_sipush, v_lconst0, v_lconst1, v_ldc, v_ldcw, v_ldc2, v_iload0, v_iload1, v_iload2, v_iload3, v_iload, v_lload0, v_lload1, v_lload2, v_lload3, v_lload, v_aload0, v_aload1, v_aload2, v_aload3, v_aload, v_istore0, v_istore1, v_istore2, v_istore3, v_istore, v_lstore0, v_lstore1, v_lstore2, v_lstore3, v_lstore, v_astore0, v_astore1, v_astore2, v_astore3, v_astore, v_iinc, v_iadd, v_isub, v_imul, v_iand, v_ior, v_ixor, v_ishl, v_ishr, v_iushr, v_ineg, v_idiv, v_irem, v_ladd, v_lsub, v_lmul, v_lcmp, v_i2l, v_l2i, v_i2c, v_dup, v_dup2, v_if_eq, v_if_ne, v_if_lt, v_if_ge, v_if_gt, v_if_le, v_ic_eq, v_ic_ne, v_ic_lt, v_ic_ge, v_ic_gt, v_ic_le, v_goto, v_tsw, v_lsw, v_ireturn, v_areturn, v_return, v_iaload, v_laload, v_baload, v_caload, v_aaload, v_iastore, v_lastore, v_bastore, v_castore, v_alen, v_invvi, v_invst, v_invsp, e_int, e_lng, e_ref, e_lg0, e_lg1, e_lg2, e_lg3, e_lg4, e_lg5, e_lg6, e_lg7, e_lg8, e_lg9, e_lg10, e_lg11, e_lg12, e_lg13, e_clrI, e_clrJ, e_clrP, e_clrN, e_s0, e_s1, e_s2, e_s3, e_s4, e_s5, e_s6, e_s7, e_s8, e_s9, e_s10, e_s11, e_s12, e_s13, e_t0, e_t1, e_t2, e_t3, e_t4, e_t5, e_t6, e_t7, e_t8, e_t9, e_t10, e_t11, e_t12, e_t13, e_fd, e_kk, e_k0, e_k1, e_k2, e_k3, e_k4, e_k5, e_k6, e_k7, e_k8, e_k9, e_sv0, e_sv1, e_sv2, e_sv3, e_svc, e_pf0, e_pf1, e_pf2, e_pf3, e_ar, e_aa, e_al, e_sw1, e_sw2, e_ct0, e_ct1, e_ct2, e_cat0, e_cat1, e_rk0, e_rk1, e_rk2, e_inv0, e_inv1, e_inv2, e_inv3, e_inv4, e_inv5, e_inv6, e_o0, e_o1, e_cl, e_cle, e_cg, e_cge, e_ce, e_cr1, e_cr2, e_r, e_R, e_up, Int.cast_ofNat_Int, u_app, false_and, and_false, e_b0, e_b1, e_bn, e_bl, e_bu, Int.reduceLE, Int.reduceLT, Int.reduceEq, Int.reduceNeg, Int.reduceAdd, Int.reduceSub, Int.reduceMul, Nat.reduceLeDiff, Nat.reduceLT, Nat.reduceAdd, Nat.reduceEqDiff, true_and, and_true, true_or, or_true, false_or, or_false, forall_const, not_true_eq_false, not_false_eq_true, true_implies, false_implies, implies_true, and_self, zero_ne_one, one_ne_zero, eq_self, reduceIte, s_X11_fromOf_0, b_X11_fromOf_0, s_X11_fromOf_12, b_X11_fromOf_12, s_X11_fromOf_18, b_X11_fromOf_18, s_X11_fromOf_30, b_X11_fromOf_30, s_X11_fromOf_41, b_X11_fromOf_41, s_X11_fromOf_51, b_X11_fromOf_51, s_X11_fromOf_52, b_X11_fromOf_52, s_X11_fromOf_61, b_X11_fromOf_61, g_X11_27, g_X11_33, g_X11_45, G_X11_fromOf_145, sp_X11_findNeeds_e]
  exact ⟨h1, h3, h4, h5, fr_b hR h1 h2 h5 hk (board + 1).toNat 0 (by omega)⟩
set_option maxRecDepth 100000 in
theorem C_X11_fromOf {l : Launch} {ad : Int → Nat} {D : va_G} {cy : Nat → ClassId} {Z : State → Prop} (hZ : q_Zg ad Z) : q_Ct l q_T q_N ad D cy Z yX11_fromOf cX11_fromOf 6 (some .int) rm_X11_fromOf sp_X11_fromOf := by
  obtain ⟨hf, hg, hld⟩ := q_chkS k_X11_fromOf
  refine q_met (rk := 0) q_wokT (by decide) rfl hf hg hld rfl (q_skS L_X11_fromOf o_X11_fromOf) ?_ ?_ ?_ ?_ B_X11_fromOf
  · intro i hi; exact absurd hi List.not_mem_nil
  · intro i hi
    have hi : i = 145 := by simpa [u_X11_fromOf] using hi
    rcases hi with rfl
    · exact q_crV hZ.1 (C_X11_findNeeds hZ) rv_X11_findNeeds cm_X11_findNeeds (by decide +kernel) (by decide +kernel) (by decide +kernel) (by decide +kernel) (by decide +kernel) ⟨rfl, rfl⟩ (by decide)
  · intro i hi; exact absurd hi List.not_mem_nil
  · intro i hi; exact absurd hi List.not_mem_nil
theorem rv_X11_fromOf : q_rcv q_T yX11_fromOf.cls sp_X11_fromOf := by
  intro ra μ K h
  obtain ⟨this, board, tile, sheet, rfl, h⟩ := sp_X11_fromOf_i h
  obtain rfl := h.1
  exact ⟨[.inl sheet, .inl tile, .inl board], 85, 11, _, _, rfl, T_85, rfl, rfl⟩
theorem cm_X11_fromOf : Cond.code yX11_fromOf cX11_fromOf 6 (some .int) ∈ q_tb := by decide +kernel
/-- the fresh tiles after the first i of them were looked at -/
def m_pf (μ : QM) (n sheet bit i : Int) : Int → Int := fun j => if 0 ≤ j ∧ j < i ∧ j < 9 * n then (if μ 94 j = 1 ∧ q_and (m_from (μ 85 2) (μ 85 3) (μ 89) (μ 91) (μ 93) (fun b k => μ 92 (3 * b + k)) (j / 9) (j % 9) sheet) bit = 0 then 1 else 0) else μ 94 j
def sp_X11_put : QP := fun ra μ K => match ra with
  | [.inl value, .inl y, .inl x, .inl sheet, .inr (.inr this)] => this = 85 ∧ (0 ≤ sheet ∧ sheet < 4 ∧ 0 ≤ x ∧ x < μ 85 2 ∧ 0 ≤ y ∧ y < μ 85 3) ∧ m_dim (μ 85 2) (μ 85 3) ∧ (0 ≤ μ 85 7 ∧ μ 85 7 ≤ 10) ∧ m_rok (μ 89) (μ 91) (μ 93) (fun b k => μ 92 (3 * b + k)) (μ 85 7) ∧ (∀ b t : Int, 0 ≤ b → b < μ 85 7 → 0 ≤ t → t < 9 → μ 94 (9 * b + t) = 0 ∨ (μ 94 (9 * b + t) = 1 ∧ m_tl (μ 85 2) (μ 85 3) t)) ∧ (∀ g : Int → Int, K none (q_blk (q_blk (q_up μ 86 (144 * sheet + 12 * y + x) value) 95 10 g) 94 90 (m_pf μ (μ 85 7) sheet (q_shl 1 (y / 4 * 3 + x / 4)) (9 * μ 85 7))))
  | _ => False
theorem sp_X11_put_e (this sheet x y value : Int) (μ : QM) (K : Option QV → QM → Prop) : sp_X11_put [.inl value, .inl y, .inl x, .inl sheet, .inr (.inr this)] μ K = (this = 85 ∧ (0 ≤ sheet ∧ sheet < 4 ∧ 0 ≤ x ∧ x < μ 85 2 ∧ 0 ≤ y ∧ y < μ 85 3) ∧ m_dim (μ 85 2) (μ 85 3) ∧ (0 ≤ μ 85 7 ∧ μ 85 7 ≤ 10) ∧ m_rok (μ 89) (μ 91) (μ 93) (fun b k => μ 92 (3 * b + k)) (μ 85 7) ∧ (∀ b t : Int, 0 ≤ b → b < μ 85 7 → 0 ≤ t → t < 9 → μ 94 (9 * b + t) = 0 ∨ (μ 94 (9 * b + t) = 1 ∧ m_tl (μ 85 2) (μ 85 3) t)) ∧ (∀ g : Int → Int, K none (q_blk (q_blk (q_up μ 86 (144 * sheet + 12 * y + x) value) 95 10 g) 94 90 (m_pf μ (μ 85 7) sheet (q_shl 1 (y / 4 * 3 + x / 4)) (9 * μ 85 7))))) := propext Iff.rfl
theorem sp_X11_put_i {ra : List QV} {μ : QM} {K : Option QV → QM → Prop} (h : sp_X11_put ra μ K) : ∃ this sheet x y value : Int, ra = [.inl value, .inl y, .inl x, .inl sheet, .inr (.inr this)] ∧ (this = 85 ∧ (0 ≤ sheet ∧ sheet < 4 ∧ 0 ≤ x ∧ x < μ 85 2 ∧ 0 ≤ y ∧ y < μ 85 3) ∧ m_dim (μ 85 2) (μ 85 3) ∧ (0 ≤ μ 85 7 ∧ μ 85 7 ≤ 10) ∧ m_rok (μ 89) (μ 91) (μ 93) (fun b k => μ 92 (3 * b + k)) (μ 85 7) ∧ (∀ b t : Int, 0 ≤ b → b < μ 85 7 → 0 ≤ t → t < 9 → μ 94 (9 * b + t) = 0 ∨ (μ 94 (9 * b + t) = 1 ∧ m_tl (μ 85 2) (μ 85 3) t)) ∧ (∀ g : Int → Int, K none (q_blk (q_blk (q_up μ 86 (144 * sheet + 12 * y + x) value) 95 10 g) 94 90 (m_pf μ (μ 85 7) sheet (q_shl 1 (y / 4 * 3 + x / 4)) (9 * μ 85 7))))) := by
  unfold sp_X11_put at h
  split at h
  · exact ⟨_, _, _, _, _, rfl, h⟩
  · exact h.elim
def rm_X11_put : Room := { frames := 6, cells := 0, slots := 0, locals := 146 }
def G_X11_put : Nat → Nat × QP := fun i => match i with
  | 128 => (4, sp_X11_fromOf)
  | 121 => (2, sp_X11_tileOf)
  | _ => (0, fun _ _ _ => False)
theorem G_X11_put_128 : G_X11_put 128 = (4, sp_X11_fromOf) := id rfl
theorem G_X11_put_121 : G_X11_put 121 = (2, sp_X11_tileOf) := id rfl
theorem q_blk_ne {μ : QM} {a n b : Int} {f : Int → Int} (h : ¬ b = a) : q_blk μ a n f b = μ b := by
  funext j
  exact if_neg (fun q => h q.1)
theorem m_pf_s {μ : QM} {n sheet bit i v : Int} (h0 : 0 ≤ i) (hi : i < 9 * n) (hv : v = (if μ 94 i = 1 ∧ q_and (m_from (μ 85 2) (μ 85 3) (μ 89) (μ 91) (μ 93) (fun b k => μ 92 (3 * b + k)) (i / 9) (i % 9) sheet) bit = 0 then 1 else 0)) : (fun j => if j = i then v else m_pf μ n sheet bit i j) = m_pf μ n sheet bit (i + 1) := by
  funext j
  unfold m_pf
  by_cases c : j = i
  · subst c
    rw [if_pos rfl, if_pos (by omega), hv]
  · rw [if_neg c]
    by_cases d : 0 ≤ j ∧ j < i ∧ j < 9 * n
    · rw [if_pos d, if_pos (show 0 ≤ j ∧ j < i + 1 ∧ j < 9 * n by omega)]
    · rw [if_neg d, if_neg (show ¬ (0 ≤ j ∧ j < i + 1 ∧ j < 9 * n) by omega)]
theorem q_b94 {μ : QM} {f g : Int → Int} : q_blk (q_blk (q_blk μ 95 10 f) 94 90 g) 95 10 f = q_blk (q_blk μ 95 10 f) 94 90 g := by
  funext b j
  simp only [u_blk]
  by_cases c : b = 95
  · subst c
    simp
    intro h1 h2 h3
    omega
  · simp [c]
theorem q_b945 {μ : QM} {e f g : Int → Int} : q_blk (q_blk (q_blk μ 95 10 e) 94 90 g) 95 10 f = q_blk (q_blk μ 95 10 f) 94 90 g := by
  funext b j
  simp only [u_blk]
  by_cases c : b = 95
  · subst c
    by_cases d : 0 ≤ j ∧ j < 10
    · simp [d]
    · simp [d]
  · simp [c]
set_option maxRecDepth 100000 in
theorem put_t {Rt : Option QV → QM → Prop} {S : Nat → QL → List QV → QM → Prop} (hR : q_Rule cX11_put 8 u_X11_put fl_X11 ld_X11 G_X11_put q_T 4 s_X11_put Rt S) {μ μ0 : QM} {s x y v bit b : Int} (e0 : ∀ a j, a ≠ 86 → μ0 a j = μ a j) (hs : 0 ≤ s ∧ s < 4) (hd : m_dim (μ 85 2) (μ 85 3)) (hn : 0 ≤ μ 85 7 ∧ μ 85 7 ≤ 10) (hr : m_rok (μ 89) (μ 91) (μ 93) (fun b k => μ 92 (3 * b + k)) (μ 85 7)) (hf : ∀ b t : Int, 0 ≤ b → b < μ 85 7 → 0 ≤ t → t < 9 → μ 94 (9 * b + t) = 0 ∨ (μ 94 (9 * b + t) = 1 ∧ m_tl (μ 85 2) (μ 85 3) t)) (hb : 0 ≤ b ∧ b < μ 85 7) :
    ∀ (n : Nat) (t : Int) (g : Int → Int), 0 ≤ t → t ≤ 9 → 9 - t < n → (∀ (l7 : Option QV) (g : Int → Int), S 31 [some (.inr (.inr 85)), some (.inl s), some (.inl x), some (.inl y), some (.inl v), some (.inl bit), some (.inl (b + 1)), l7] [] (q_blk (q_blk μ0 95 10 g) 94 90 (m_pf μ (μ 85 7) s bit (9 * (b + 1))))) →
    S 43 [some (.inr (.inr 85)), some (.inl s), some (.inl x), some (.inl y), some (.inl v), some (.inl bit), some (.inl b), some (.inl t)] [] (q_blk (q_blk μ0 95 10 g) 94 90 (m_pf μ (μ 85 7) s bit (9 * b + t))) := by
  intro n
  induction n with
  | zero => intro t g h1 h2 h3; omega
  | succ n ih =>
    intro t g h1 h2 h3 hk
    refine hR 80 b_X11_put_43 43 _ _ _ o_X11_put_43 ?_
    simp only [v_opt_n, v_opt_s, v_nil, v_iconst, v_bipush, v_sipush, v_lconst0, v_lconst1, v_ldc, v_ldcw, v_ldc2, v_iload0, v_iload1, v_iload2, v_iload3, v_iload, v_lload0, v_lload1, v_lload2, v_lload3, v_lload, v_aload0, v_aload1, v_aload2, v_aload3, v_aload, v_istore0, v_istore1, v_istore2, v_istore3, v_istore, v_lstore0, v_lstore1, v_lstore2, v_lstore3, v_lstore, v_astore0, v_astore1, v_astore2, v_astore3, v_astore, v_iinc, v_iadd, v_isub, v_imul, v_iand, v_ior, v_ixor, v_ishl, v_ishr, v_iushr, v_ineg, v_idiv, v_irem, v_ladd, v_lsub, v_lmul, v_lcmp, v_i2l, v_l2i, v_i2c, v_dup, v_dup2, v_if_eq, v_if_ne, v_if_lt, v_if_ge, v_if_gt, v_if_le, v_ic_eq, v_ic_ne, v_ic_lt, v_ic_ge, v_ic_gt, v_ic_le, v_goto, v_tsw, v_lsw, v_ireturn, v_areturn, v_return, v_iaload, v_laload, v_baload, v_caload, v_aaload, v_iastore, v_lastore, v_bastore, v_castore, v_alen, v_invvi, v_invst, v_invsp, e_int, e_lng, e_ref, e_lg0, e_lg1, e_lg2, e_lg3, e_lg4, e_lg5, e_lg6, e_lg7, e_lg8, e_lg9, e_lg10, e_lg11, e_lg12, e_lg13, e_clrI, e_clrJ, e_clrP, e_clrN, e_s0, e_s1, e_s2, e_s3, e_s4, e_s5, e_s6, e_s7, e_s8, e_s9, e_s10, e_s11, e_s12, e_s13, e_t0, e_t1, e_t2, e_t3, e_t4, e_t5, e_t6, e_t7, e_t8, e_t9, e_t10, e_t11, e_t12, e_t13, e_fd, e_kk, e_k0, e_k1, e_k2, e_k3, e_k4, e_k5, e_k6, e_k7, e_k8, e_k9, e_sv0, e_sv1, e_sv2, e_sv3, e_svc, e_pf0, e_pf1, e_pf2, e_pf3, e_ar, e_aa, e_al, e_sw1, e_sw2, e_ct0, e_ct1, e_ct2, e_cat0, e_cat1, e_rk0, e_rk1, e_rk2, e_inv0, e_inv1, e_inv2, e_inv3, e_inv4, e_inv5, e_inv6, e_o0, e_o1, e_cl, e_cle, e_cg, e_cge, e_ce, e_cr1, e_cr2, e_r, e_R, e_up, Int.cast_ofNat_Int, u_app, false_and, and_false, e_b0, e_b1, e_bn, e_bl, e_bu, Int.reduceLE, Int.reduceLT, Int.reduceEq, Int.reduceNeg, Int.reduceAdd, Int.reduceSub, Int.reduceMul, Nat.reduceLeDiff, Nat.reduceLT, Nat.reduceAdd, Nat.reduceEqDiff, true_and, and_true, true_or, or_true, false_or, or_false, forall_const, not_true_eq_false, not_false_eq_true, true_implies, false_implies, implies_true, and_self, zero_ne_one, one_ne_zero, eq_self, reduceIte, s_X11_put_0, b_X11_put_0, s_X11_put_31, b_X11_put_31, s_X11_put_40, b_X11_put_40, s_X11_put_43, b_X11_put_43, s_X11_put_50, b_X11_put_50, s_X11_put_78, b_X11_put_78, s_X11_put_93, b_X11_put_93, s_X11_put_97, b_X11_put_97, s_X11_put_98, b_X11_put_98, s_X11_put_105, b_X11_put_105, s_X11_put_111, b_X11_put_111, g_X11_16, g_X11_125, g_X11_42, G_X11_put_128, sp_X11_fromOf_e, G_X11_put_121, sp_X11_tileOf_e, T_94, u_blk]
    refine ⟨by omega, fun c => ?_, fun c => ?_⟩
    · have e : t = 9 := by omega
      subst e
      rw [show 9 * b + 9 = 9 * (b + 1) by omega]
      exact hk _ g
    · have hlt : 9 * b + t < 90 := by omega
      have hf9 := hf b t hb.1 hb.2 h1 (by omega)
      have hj : m_pf μ (μ 85 7) s bit (9 * b + t) (9 * b + t) = μ 94 (9 * b + t) := by
        unfold m_pf
        rw [if_neg (by omega)]
      have d1 : (9 * b + t) / 9 = b := by omega
      have d2 : (9 * b + t) % 9 = t := by omega
      rw [if_pos ⟨by omega, by omega⟩, hj]
      refine ⟨by omega, by omega, by omega, fun c1 => ?_, fun c1 => ?_⟩
      · refine ⟨by omega, by omega, ?_⟩
        rw [q_blk_up (by omega) (by omega), m_pf_s (by omega) (by omega) (by rw [if_neg (by omega)]), show 9 * b + t + 1 = 9 * b + (t + 1) by omega]
        exact ih (t + 1) g (by omega) (by omega) (by omega) hk
      · have ht : m_tl (μ 85 2) (μ 85 3) t := by omega
        have hm := bt_r_and (m_from (μ 85 2) (μ 85 3) (μ 89) (μ 91) (μ 93) (fun b k => μ 92 (3 * b + k)) b t s) bit
        have f89 : μ0 89 = μ 89 := funext fun j => e0 89 j (by decide)
        have f91 : μ0 91 = μ 91 := funext fun j => e0 91 j (by decide)
        have f93 : μ0 93 = μ 93 := funext fun j => e0 93 j (by decide)
        have f92 : μ0 92 = μ 92 := funext fun j => e0 92 j (by decide)
        have f2 : μ0 85 2 = μ 85 2 := e0 85 2 (by decide)
        have f3 : μ0 85 3 = μ 85 3 := e0 85 3 (by decide)
        simp only [q_blk_ne (b := 89) (a := 94) (by decide), q_blk_ne (b := 91) (a := 94) (by decide), q_blk_ne (b := 93) (a := 94) (by decide), q_blk_ne (b := 89) (a := 95) (by decide), q_blk_ne (b := 91) (a := 95) (by decide), q_blk_ne (b := 93) (a := 95) (by decide), f89, f91, f92, f93, f2, f3, q_b945]
        refine ⟨by omega, by omega, hd, ht, fun b9 q1 q2 => hr b9 q1 (by omega), hm, fun c2 => ⟨by omega, by omega, ?_⟩, fun c2 => ⟨by omega, by omega, ?_⟩⟩
        · rw [q_blk_up (by omega) (by omega), m_pf_s (by omega) (by omega) (by rw [d1, d2, if_neg (by omega)]), show 9 * b + t + 1 = 9 * b + (t + 1) by omega]
          exact ih (t + 1) _ (by omega) (by omega) (by omega) hk
        · rw [q_blk_up (by omega) (by omega), m_pf_s (by omega) (by omega) (by rw [d1, d2, if_pos (by omega)]), show 9 * b + t + 1 = 9 * b + (t + 1) by omega]
          exact ih (t + 1) _ (by omega) (by omega) (by omega) hk
set_option maxRecDepth 100000 in
theorem put_b {Rt : Option QV → QM → Prop} {S : Nat → QL → List QV → QM → Prop} (hR : q_Rule cX11_put 8 u_X11_put fl_X11 ld_X11 G_X11_put q_T 4 s_X11_put Rt S) {μ μ0 : QM} {s x y v bit : Int} (e0 : ∀ a j, a ≠ 86 → μ0 a j = μ a j) (hs : 0 ≤ s ∧ s < 4) (hd : m_dim (μ 85 2) (μ 85 3)) (hn : 0 ≤ μ 85 7 ∧ μ 85 7 ≤ 10) (hr : m_rok (μ 89) (μ 91) (μ 93) (fun b k => μ 92 (3 * b + k)) (μ 85 7)) (hf : ∀ b t : Int, 0 ≤ b → b < μ 85 7 → 0 ≤ t → t < 9 → μ 94 (9 * b + t) = 0 ∨ (μ 94 (9 * b + t) = 1 ∧ m_tl (μ 85 2) (μ 85 3) t)) :
    ∀ (n : Nat) (b : Int) (g : Int → Int) (l7 : Option QV), 0 ≤ b → b ≤ μ 85 7 → μ 85 7 - b < n → (∀ (g : Int → Int), Rt none (q_blk (q_blk μ0 95 10 g) 94 90 (m_pf μ (μ 85 7) s bit (9 * μ 85 7)))) →
    S 31 [some (.inr (.inr 85)), some (.inl s), some (.inl x), some (.inl y), some (.inl v), some (.inl bit), some (.inl b), l7] [] (q_blk (q_blk μ0 95 10 g) 94 90 (m_pf μ (μ 85 7) s bit (9 * b))) := by
  intro n
  induction n with
  | zero => intro b g l7 h1 h2 h3; omega
  | succ n ih =>
    intro b g l7 h1 h2 h3 hk
    have f7 : μ0 85 7 = μ 85 7 := e0 85 7 (by decide)
    refine hR 80 b_X11_put_31 31 _ _ _ o_X11_put_31 ?_
    simp only [v_opt_n, v_opt_s, v_nil, v_iconst, v_bipush, v_sipush, v_lconst0, v_lconst1, v_ldc, v_ldcw, v_ldc2, v_iload0, v_iload1, v_iload2, v_iload3, v_iload, v_lload0, v_lload1, v_lload2, v_lload3, v_lload, v_aload0, v_aload1, v_aload2, v_aload3, v_aload, v_istore0, v_istore1, v_istore2, v_istore3, v_istore, v_lstore0, v_lstore1, v_lstore2, v_lstore3, v_lstore, v_astore0, v_astore1, v_astore2, v_astore3, v_astore, v_iinc, v_iadd, v_isub, v_imul, v_iand, v_ior, v_ixor, v_ishl, v_ishr, v_iushr, v_ineg, v_idiv, v_irem, v_ladd, v_lsub, v_lmul, v_lcmp, v_i2l, v_l2i, v_i2c, v_dup, v_dup2, v_if_eq, v_if_ne, v_if_lt, v_if_ge, v_if_gt, v_if_le, v_ic_eq, v_ic_ne, v_ic_lt, v_ic_ge, v_ic_gt, v_ic_le, v_goto, v_tsw, v_lsw, v_ireturn, v_areturn, v_return, v_iaload, v_laload, v_baload, v_caload, v_aaload, v_iastore, v_lastore, v_bastore, v_castore, v_alen, v_invvi, v_invst, v_invsp, e_int, e_lng, e_ref, e_lg0, e_lg1, e_lg2, e_lg3, e_lg4, e_lg5, e_lg6, e_lg7, e_lg8, e_lg9, e_lg10, e_lg11, e_lg12, e_lg13, e_clrI, e_clrJ, e_clrP, e_clrN, e_s0, e_s1, e_s2, e_s3, e_s4, e_s5, e_s6, e_s7, e_s8, e_s9, e_s10, e_s11, e_s12, e_s13, e_t0, e_t1, e_t2, e_t3, e_t4, e_t5, e_t6, e_t7, e_t8, e_t9, e_t10, e_t11, e_t12, e_t13, e_fd, e_kk, e_k0, e_k1, e_k2, e_k3, e_k4, e_k5, e_k6, e_k7, e_k8, e_k9, e_sv0, e_sv1, e_sv2, e_sv3, e_svc, e_pf0, e_pf1, e_pf2, e_pf3, e_ar, e_aa, e_al, e_sw1, e_sw2, e_ct0, e_ct1, e_ct2, e_cat0, e_cat1, e_rk0, e_rk1, e_rk2, e_inv0, e_inv1, e_inv2, e_inv3, e_inv4, e_inv5, e_inv6, e_o0, e_o1, e_cl, e_cle, e_cg, e_cge, e_ce, e_cr1, e_cr2, e_r, e_R, e_up, Int.cast_ofNat_Int, u_app, false_and, and_false, e_b0, e_b1, e_bn, e_bl, e_bu, Int.reduceLE, Int.reduceLT, Int.reduceEq, Int.reduceNeg, Int.reduceAdd, Int.reduceSub, Int.reduceMul, Nat.reduceLeDiff, Nat.reduceLT, Nat.reduceAdd, Nat.reduceEqDiff, true_and, and_true, true_or, or_true, false_or, or_false, forall_const, not_true_eq_false, not_false_eq_true, true_implies, false_implies, implies_true, and_self, zero_ne_one, one_ne_zero, eq_self, reduceIte, s_X11_put_0, b_X11_put_0, s_X11_put_31, b_X11_put_31, s_X11_put_40, b_X11_put_40, s_X11_put_43, b_X11_put_43, s_X11_put_50, b_X11_put_50, s_X11_put_78, b_X11_put_78, s_X11_put_93, b_X11_put_93, s_X11_put_97, b_X11_put_97, s_X11_put_98, b_X11_put_98, s_X11_put_105, b_X11_put_105, s_X11_put_111, b_X11_put_111, g_X11_16, g_X11_125, g_X11_42, G_X11_put_128, sp_X11_fromOf_e, G_X11_put_121, sp_X11_tileOf_e, u_blk, f7]
    refine ⟨by omega, fun c => ?_, fun c => ?_⟩
    · rw [show b = μ 85 7 by omega]
      exact hk g
    · have := put_t hR (x := x) (y := y) (v := v) (bit := bit) (b := b) e0 hs hd hn hr hf ⟨h1, by omega⟩ 10 0 g (by omega) (by omega) (by omega) (fun l7 g => ih (b + 1) g l7 (by omega) (by omega) (by omega) hk)
      rw [show 9 * b + 0 = 9 * b by omega] at this
      exact this
theorem q_blk_id2 {μ : QM} : q_blk (q_blk μ 95 10 (μ 95)) 94 90 (μ 94) = μ := by
  rw [q_blk_of]
  exact q_blk_of
set_option maxRecDepth 100000 in
set_option maxHeartbeats 4000000 in
theorem B_X11_put : q_Body cX11_put 8 u_X11_put fl_X11 ld_X11 G_X11_put q_T 4 s_X11_put sp_X11_put := by
  intro S Rt hR ra μ h
  obtain ⟨this, sheet, x, y, value, rfl, h⟩ := sp_X11_put_i h
  refine ⟨by simp [q_sl, q_ct], ?_⟩
  show S 0 [some (.inr (.inr this)), some (.inl sheet), some (.inl x), some (.inl y), some (.inl value), none, none, none] [] μ
  obtain ⟨rfl, h1, h2, h3, h4, h5, hk⟩ := h
  refine hR 80 [] 0 _ _ _ rfl ?_
  simp only [v_opt_n, v_opt_s, v_nil, v_iconst, v_bipush, v_sipush, v_lconst0, v_lconst1, v_ldc, v_ldcw, v_ldc2, v_iload0, v_iload1, v_iload2, v_iload3, v_iload, v_lload0, v_lload1, v_lload2, v_lload3, v_lload, v_aload0, v_aload1, v_aload2, v_aload3, v_aload, v_istore0, v_istore1, v_istore2, v_istore3, v_istore, v_lstore0, v_lstore1, v_lstore2, v_lstore3, v_lstore, v_astore0, v_astore1, v_astore2, v_astore3, v_astore, v_iinc, v_iadd, v_isub, v_imul, v_iand, v_ior, v_ixor, v_ishl, v_ishr, v_iushr, v_ineg, v_idiv, v_irem, v_ladd, v_lsub, v_lmul, v_lcmp, v_i2l, v_l2i, v_i2c, v_dup, v_dup2, v_if_eq, v_if_ne, v_if_lt, v_if_ge, v_if_gt, v_if_le, v_ic_eq, v_ic_ne, v_ic_lt, v_ic_ge, v_ic_gt, v_ic_le, v_goto, v_tsw, v_lsw, v_ireturn, v_areturn, v_return, v_iaload, v_laload, v_baload, v_caload, v_aaload, v_iastore, v_lastore, v_bastore, v_castore, v_alen, v_invvi, v_invst, v_invsp, e_int, e_lng, e_ref, e_lg0, e_lg1, e_lg2, e_lg3, e_lg4, e_lg5, e_lg6, e_lg7, e_lg8, e_lg9, e_lg10, e_lg11, e_lg12, e_lg13, e_clrI, e_clrJ, e_clrP, e_clrN, e_s0, e_s1, e_s2, e_s3, e_s4, e_s5, e_s6, e_s7, e_s8, e_s9, e_s10, e_s11, e_s12, e_s13, e_t0, e_t1, e_t2, e_t3, e_t4, e_t5, e_t6, e_t7, e_t8, e_t9, e_t10, e_t11, e_t12, e_t13, e_fd, e_kk, e_k0, e_k1, e_k2, e_k3, e_k4, e_k5, e_k6, e_k7, e_k8, e_k9, e_sv0, e_sv1, e_sv2, e_sv3, e_svc, e_pf0, e_pf1, e_pf2, e_pf3, e_ar, e_aa, e_al, e_sw1, e_sw2, e_ct0, e_ct1, e_ct2, e_cat0, e_cat1, e_rk0, e_rk1, e_rk2, e_inv0, e_inv1, e_inv2, e_inv3, e_inv4, e_inv5, e_inv6, e_o0, e_o1, e_cl, e_cle, e_cg, e_cge, e_ce, e_cr1, e_cr2, e_r, e_R, e_up, Int.cast_ofNat_Int, u_app, false_and, and_false, e_b0, e_b1, e_bn, e_bl, e_bu, Int.reduceLE, Int.reduceLT, Int.reduceEq, Int.reduceNeg, Int.reduceAdd, Int.reduceSub, Int.reduceMul, Nat.reduceLeDiff, Nat.reduceLT, Nat.reduceAdd, Nat.reduceEqDiff, true_and, and_true, true_or, or_true, false_or, or_false, forall_const, not_true_eq_false, not_false_eq_true, true_implies, false_implies, implies_true, and_self, zero_ne_one, one_ne_zero, eq_self, reduceIte, s_X11_put_0, b_X11_put_0, s_X11_put_31, b_X11_put_31, s_X11_put_40, b_X11_put_40, s_X11_put_43, b_X11_put_43, s_X11_put_50, b_X11_put_50, s_X11_put_78, b_X11_put_78, s_X11_put_93, b_X11_put_93, s_X11_put_97, b_X11_put_97, s_X11_put_98, b_X11_put_98, s_X11_put_105, b_X11_put_105, s_X11_put_111, b_X11_put_111, g_X11_16, g_X11_125, g_X11_42, G_X11_put_128, sp_X11_fromOf_e, G_X11_put_121, sp_X11_tileOf_e, T_86]
  refine ⟨by omega, by omega, by omega, ?_⟩
  have e0 : ∀ a j, a ≠ 86 → q_up μ 86 (144 * sheet + 12 * y + x) value a j = μ a j := fun a j ha => u_na ha
  have h0 : m_pf μ (μ 85 7) sheet (q_shl 1 (y / 4 * 3 + x / 4)) (9 * 0) = μ 94 := by
    funext j
    unfold m_pf
    rw [if_neg (by omega)]
  have := put_b hR (x := x) (y := y) (v := value) (bit := q_shl 1 (y / 4 * 3 + x / 4)) e0 ⟨h1.1, h1.2.1⟩ h2 h3 h4 h5 11 0 (q_up μ 86 (144 * sheet + 12 * y + x) value 95) none (by omega) (by omega) (by omega) (fun g => by
    exact hk g)
  rw [h0] at this
  have e94 : μ 94 = q_up μ 86 (144 * sheet + 12 * y + x) value 94 := funext fun j => (e0 94 j (by decide)).symm
  rw [e94, q_blk_id2] at this
  exact this
set_option maxRecDepth 100000 in
theorem C_X11_put {l : Launch} {ad : Int → Nat} {D : va_G} {cy : Nat → ClassId} {Z : State → Prop} (hZ : q_Zg ad Z) : q_Ct l q_T q_N ad D cy Z yX11_put cX11_put 8 none rm_X11_put sp_X11_put := by
  obtain ⟨hf, hg, hld⟩ := q_chkS k_X11_put
  refine q_met (rk := 4) q_wokT (by decide) rfl hf hg hld rfl (q_skS L_X11_put o_X11_put) ?_ ?_ ?_ ?_ B_X11_put
  · intro i hi; exact absurd hi List.not_mem_nil
  · intro i hi
    have hi : i = 128 := by simpa [u_X11_put] using hi
    rcases hi with rfl
    · exact q_crV hZ.1 (C_X11_fromOf hZ) rv_X11_fromOf cm_X11_fromOf (by decide +kernel) (by decide +kernel) (by decide +kernel) (by decide +kernel) (by decide +kernel) ⟨rfl, rfl⟩ (by decide)
  · intro i hi
    have hi : i = 121 := by simpa [u_X11_put] using hi
    rcases hi with rfl
    · exact q_crS hZ.1 (C_X11_tileOf hZ) cm_X11_tileOf (by decide +kernel) (by decide +kernel) (by decide +kernel) (by decide +kernel) ⟨rfl, rfl⟩ (by decide)
  · intro i hi; exact absurd hi List.not_mem_nil
theorem rv_X11_put : q_rcv q_T yX11_put.cls sp_X11_put := by
  intro ra μ K h
  obtain ⟨this, sheet, x, y, value, rfl, h⟩ := sp_X11_put_i h
  obtain rfl := h.1
  exact ⟨[.inl value, .inl y, .inl x, .inl sheet], 85, 11, _, _, rfl, T_85, rfl, rfl⟩
theorem cm_X11_put : Cond.code yX11_put cX11_put 8 none ∈ q_tb := by decide +kernel

