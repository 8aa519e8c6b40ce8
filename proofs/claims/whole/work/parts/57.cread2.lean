/-! the class: reading names, makings, boards -/
def c_sn (T : Int → Int) (L : Int) (nm : Int → Int) : Nat → Int × Nat → Int × Nat
  | 0, s => s
  | n + 1, s => m_sM T L nm (c_sn T L nm n s)
theorem c_sn_s (T : Int → Int) (L : Int) (nm : Int → Int) (n : Nat) (s : Int × Nat) : c_sn T L nm (n + 1) s = m_sM T L nm (c_sn T L nm n s) := id rfl
theorem c_sM_1 {T : Int → Int} {L : Int} {nm : Int → Int} {s : Int × Nat} (h : s.1 = 1) : m_sM T L nm s = s := by
  unfold m_sM m_ms
  rw [if_pos h]
theorem c_sn_1 {T : Int → Int} {L : Int} {nm : Int → Int} {s : Int × Nat} {k : Nat} (h : (c_sn T L nm k s).1 = 1) : ∀ d : Nat, c_sn T L nm (k + d) s = c_sn T L nm k s
  | 0 => rfl
  | d + 1 => by
    have ih := c_sn_1 h d
    show m_sM T L nm (c_sn T L nm (k + d) s) = _
    rw [ih]
    exact c_sM_1 h
/-- the names of the plan under way -/
def c_nm (P : Int) (nm : Int → Int) (μ : QM) : Prop := q_pl P ∧ μ 15 1 = P ∧ (∀ j : Int, 0 ≤ j → j < 26 → μ (P + 2) j = nm j) ∧ ∀ j : Int, -1 ≤ nm j ∧ nm j < 10
def c_rf (μ : QM) (r : Int) (ν : QM) : Prop := (∀ a j : Int, ¬ (a = 16 ∧ j = 5) → ¬ (a = r ∧ j = 1) → ¬ a = r + 10 → ν a j = μ a j) ∧ ∀ k : Int, ν (r + 10) k = μ (r + 10) k ∨ (0 ≤ ν (r + 10) k ∧ ν (r + 10) k < 10)
def sp_X3_readNames : QP := fun ra μ K => match ra with
  | [.inl names, .inr (.inr recipe), .inr (.inr this)] => this = 15 ∧ q_rc recipe ∧ μ recipe 1 = 0 ∧ ∃ (P : Int) (nm : Int → Int) (nn : Nat) (T : Int → Int) (L : Int) (E i : Nat), c_nm P nm μ ∧ names = nn ∧ nn ≤ 3 ∧ c_at T L E i μ ∧ ∀ ν : QM, c_rf μ recipe ν → c_at T L E (c_sn T L nm nn (0, i)).2 ν → ((c_sn T L nm nn (0, i)).1 = 0 → ν recipe 1 = nn ∧ ∀ k : Nat, k < nn → ν (recipe + 10) k = nm (m_cd T L (c_sn T L nm k (0, i)).2)) → K (some (.inl (q_b ((c_sn T L nm nn (0, i)).1 = 0)))) ν
  | _ => False
theorem sp_X3_readNames_e (this recipe names : Int) (μ : QM) (K : Option QV → QM → Prop) : sp_X3_readNames [.inl names, .inr (.inr recipe), .inr (.inr this)] μ K = (this = 15 ∧ q_rc recipe ∧ μ recipe 1 = 0 ∧ ∃ (P : Int) (nm : Int → Int) (nn : Nat) (T : Int → Int) (L : Int) (E i : Nat), c_nm P nm μ ∧ names = nn ∧ nn ≤ 3 ∧ c_at T L E i μ ∧ ∀ ν : QM, c_rf μ recipe ν → c_at T L E (c_sn T L nm nn (0, i)).2 ν → ((c_sn T L nm nn (0, i)).1 = 0 → ν recipe 1 = nn ∧ ∀ k : Nat, k < nn → ν (recipe + 10) k = nm (m_cd T L (c_sn T L nm k (0, i)).2)) → K (some (.inl (q_b ((c_sn T L nm nn (0, i)).1 = 0)))) ν) := propext Iff.rfl
theorem sp_X3_readNames_i {ra : List QV} {μ : QM} {K : Option QV → QM → Prop} (h : sp_X3_readNames ra μ K) : ∃ this recipe names : Int, ra = [.inl names, .inr (.inr recipe), .inr (.inr this)] ∧ (this = 15 ∧ q_rc recipe ∧ μ recipe 1 = 0 ∧ ∃ (P : Int) (nm : Int → Int) (nn : Nat) (T : Int → Int) (L : Int) (E i : Nat), c_nm P nm μ ∧ names = nn ∧ nn ≤ 3 ∧ c_at T L E i μ ∧ ∀ ν : QM, c_rf μ recipe ν → c_at T L E (c_sn T L nm nn (0, i)).2 ν → ((c_sn T L nm nn (0, i)).1 = 0 → ν recipe 1 = nn ∧ ∀ k : Nat, k < nn → ν (recipe + 10) k = nm (m_cd T L (c_sn T L nm k (0, i)).2)) → K (some (.inl (q_b ((c_sn T L nm nn (0, i)).1 = 0)))) ν) := by
  unfold sp_X3_readNames at h
  split at h
  · exact ⟨_, _, _, rfl, h⟩
  · exact h.elim
def rm_X3_readNames : Room := { frames := 1, cells := 0, slots := 0, locals := 21 }
def G_X3_readNames : Nat → Nat × QP := fun i => match i with
  | 47 => (2, sp_X8_look)
  | 51 => (2, sp_X2_boardNamed)
  | 98 => (2, sp_X4_name)
  | 57 => (1, sp_X8_step)
  | _ => (0, fun _ _ _ => False)
theorem G_X3_readNames_47 : G_X3_readNames 47 = (2, sp_X8_look) := id rfl
theorem G_X3_readNames_51 : G_X3_readNames 51 = (2, sp_X2_boardNamed) := id rfl
theorem G_X3_readNames_98 : G_X3_readNames 98 = (2, sp_X4_name) := id rfl
theorem G_X3_readNames_57 : G_X3_readNames 57 = (1, sp_X8_step) := id rfl
theorem rn_2 {Rt : Option QV → QM → Prop} {S : Nat → QL → List QV → QM → Prop} (hR : q_Rule cX3_readNames 5 u_X3_readNames fl_X3 ld_X3 G_X3_readNames q_T 1 s_X3_readNames Rt S) {μ : QM} {r P : Int} {nm : Int → Int} {nn : Nat} {T : Int → Int} {L : Int} {E i : Nat} (hr : q_rc r) (hn : c_nm P nm μ) (hn3 : nn ≤ 3) (hk : ∀ ν : QM, c_rf μ r ν → c_at T L E (c_sn T L nm nn (0, i)).2 ν → ((c_sn T L nm nn (0, i)).1 = 0 → ν r 1 = nn ∧ ∀ k : Nat, k < nn → ν (r + 10) k = nm (m_cd T L (c_sn T L nm k (0, i)).2)) → Rt (some (.inl (q_b ((c_sn T L nm nn (0, i)).1 = 0)))) ν) : ∀ (d k : Nat) (ν : QM) (l4 : Option QV), k + d = nn → c_rf μ r ν → (c_sn T L nm k (0, i)).1 = 0 → c_at T L E (c_sn T L nm k (0, i)).2 ν → ν r 1 = k → (∀ j : Nat, j < k → ν (r + 10) j = nm (m_cd T L (c_sn T L nm j (0, i)).2)) → S 2 [some (.inr (.inr 15)), some (.inr (.inr r)), some (.inl nn), some (.inl k), l4] [] ν := by
  intro d
  have h0 : 0 ≤ r := by omega
  induction d with
  | zero =>
    intro k ν l4 e1 hf h1 hat hc hs
    obtain rfl : k = nn := by omega
    refine hR 40 b_X3_readNames_2 2 _ _ _ o_X3_readNames_2 ?_
    simp only [v_opt_n, v_opt_s, v_nil, v_iconst, v_bipush, v_sipush, v_lconst0, v_lconst1, v_ldc, v_ldcw, v_ldc2, v_iload0, v_iload1, v_iload2, v_iload3, v_iload, v_lload0, v_lload1, v_lload2, v_lload3, v_lload, v_aload0, v_aload1, v_aload2, v_aload3, v_aload, v_istore0, v_istore1, v_istore2, v_istore3, v_istore, v_lstore0, v_lstore1, v_lstore2, v_lstore3, v_lstore, v_astore0, v_astore1, v_astore2, v_astore3, v_astore, v_iinc, v_iadd, v_isub, v_imul, v_iand, v_ior, v_ixor, v_ishl, v_ishr, v_iushr, v_ineg, v_idiv, v_irem, v_ladd, v_lsub, v_lmul, v_lcmp, v_i2l, v_l2i, v_i2c, v_dup, v_dup2, v_if_eq, v_if_ne, v_if_lt, v_if_ge, v_if_gt, v_if_le, v_ic_eq, v_ic_ne, v_ic_lt, v_ic_ge, v_ic_gt, v_ic_le, v_goto, v_tsw, v_lsw, v_ireturn, v_areturn, v_return, v_iaload, v_laload, v_baload, v_caload, v_aaload, v_iastore, v_lastore, v_bastore, v_castore, v_alen, v_invvi, v_invst, v_invsp, e_int, e_lng, e_ref, e_lg0, e_lg1, e_lg2, e_lg3, e_lg4, e_lg5, e_lg6, e_lg7, e_lg8, e_lg9, e_lg10, e_lg11, e_lg12, e_lg13, e_clrI, e_clrJ, e_clrP, e_clrN, e_s0, e_s1, e_s2, e_s3, e_s4, e_s5, e_s6, e_s7, e_s8, e_s9, e_s10, e_s11, e_s12, e_s13, e_t0, e_t1, e_t2, e_t3, e_t4, e_t5, e_t6, e_t7, e_t8, e_t9, e_t10, e_t11, e_t12, e_t13, e_fd, e_kk, e_k0, e_k1, e_k2, e_k3, e_k4, e_k5, e_k6, e_k7, e_k8, e_k9, e_sv0, e_sv1, e_sv2, e_sv3, e_svc, e_pf0, e_pf1, e_pf2, e_pf3, e_ar, e_aa, e_al, e_sw1, e_sw2, e_ct0, e_ct1, e_ct2, e_cat0, e_cat1, e_rk0, e_rk1, e_rk2, e_inv0, e_inv1, e_inv2, e_inv3, e_inv4, e_inv5, e_inv6, e_o0, e_o1, e_cl, e_cle, e_cg, e_cge, e_ce, e_cr1, e_cr2, e_r, e_R, e_up, Int.cast_ofNat_Int, u_app, false_and, and_false, e_b0, e_b1, e_bn, e_bl, e_bu, Int.reduceLE, Int.reduceLT, Int.reduceEq, Int.reduceNeg, Int.reduceAdd, Int.reduceSub, Int.reduceMul, Nat.reduceLeDiff, Nat.reduceLT, Nat.reduceAdd, Nat.reduceEqDiff, true_and, and_true, true_or, or_true, false_or, or_false, forall_const, not_true_eq_false, not_false_eq_true, true_implies, false_implies, implies_true, and_self, zero_ne_one, one_ne_zero, eq_self, reduceIte, s_X3_readNames_0, b_X3_readNames_0, s_X3_readNames_2, b_X3_readNames_2, s_X3_readNames_7, b_X3_readNames_7, s_X3_readNames_30, b_X3_readNames_30, s_X3_readNames_32, b_X3_readNames_32, s_X3_readNames_51, b_X3_readNames_51, g_X3_20, g_X3_14, G_X3_readNames_47, sp_X8_look_e, G_X3_readNames_51, sp_X2_boardNamed_e, G_X3_readNames_98, sp_X4_name_e, G_X3_readNames_57, sp_X8_step_e]
    refine ⟨by omega, fun _ => ?_, fun c => absurd (Int.le_refl _) c⟩
    have := hk ν hf hat (fun _ => ⟨hc, hs⟩)
    rw [q_bt h1] at this
    exact this
  | succ d ih =>
    intro k ν l4 e1 hf h1 hat hc hs
    obtain ⟨p1, p2, p3, p4⟩ := hn
    have e15 : ν 15 1 = P := (hf.1 15 1 (by omega) (by omega) (by omega)).trans p2
    have hb := c_kc_b hat.1 (c_sn T L nm k (0, i)).2
    obtain ⟨r1, r2, r5, r6, r7⟩ := c_at_r hat
    have es : c_sn T L nm (k + 1) (0, i) = m_ms (c_sn T L nm k (0, i)) (q_b (m_kd T L (c_sn T L nm k (0, i)).2 = 1 ∧ ¬ nm (m_cd T L (c_sn T L nm k (0, i)).2) = -1)) := rfl
    have hP0 : 0 ≤ P := by omega
    have bad : ¬ (m_kd T L (c_sn T L nm k (0, i)).2 = 1 ∧ ¬ nm (m_cd T L (c_sn T L nm k (0, i)).2) = -1) → Rt (some (.inl 0)) ν := fun c => by
      rw [q_bf c] at es
      have es2 : c_sn T L nm (k + 1) (0, i) = (1, (c_sn T L nm k (0, i)).2) := by
        rw [es]
        unfold m_ms
        rw [if_neg (by omega), if_neg (by decide)]
      have es3 := c_sn_1 (d := d) (s := (0, i)) (T := T) (L := L) (nm := nm) (k := k + 1) (by rw [es2])
      rw [show k + 1 + d = nn by omega, es2] at es3
      have := hk ν hf (by rw [es3]; exact hat) (fun q => by rw [es3] at q; exact absurd (show (1 : Int) = 0 from q) (by decide))
      rw [es3, q_bf (fun q => absurd (show (1 : Int) = 0 from q) (by decide))] at this
      exact this
    refine hR 40 b_X3_readNames_2 2 _ _ _ o_X3_readNames_2 ?_
    simp only [v_opt_n, v_opt_s, v_nil, v_iconst, v_bipush, v_sipush, v_lconst0, v_lconst1, v_ldc, v_ldcw, v_ldc2, v_iload0, v_iload1, v_iload2, v_iload3, v_iload, v_lload0, v_lload1, v_lload2, v_lload3, v_lload, v_aload0, v_aload1, v_aload2, v_aload3, v_aload, v_istore0, v_istore1, v_istore2, v_istore3, v_istore, v_lstore0, v_lstore1, v_lstore2, v_lstore3, v_lstore, v_astore0, v_astore1, v_astore2, v_astore3, v_astore, v_iinc, v_iadd, v_isub, v_imul, v_iand, v_ior, v_ixor, v_ishl, v_ishr, v_iushr, v_ineg, v_idiv, v_irem, v_ladd, v_lsub, v_lmul, v_lcmp, v_i2l, v_l2i, v_i2c, v_dup, v_dup2, v_if_eq, v_if_ne, v_if_lt, v_if_ge, v_if_gt, v_if_le, v_ic_eq, v_ic_ne, v_ic_lt, v_ic_ge, v_ic_gt, v_ic_le, v_goto, v_tsw, v_lsw, v_ireturn, v_areturn, v_return, v_iaload, v_laload, v_baload, v_caload, v_aaload, v_iastore, v_lastore, v_bastore, v_castore, v_alen, v_invvi, v_invst, v_invsp, e_int, e_lng, e_ref, e_lg0, e_lg1, e_lg2, e_lg3, e_lg4, e_lg5, e_lg6, e_lg7, e_lg8, e_lg9, e_lg10, e_lg11, e_lg12, e_lg13, e_clrI, e_clrJ, e_clrP, e_clrN, e_s0, e_s1, e_s2, e_s3, e_s4, e_s5, e_s6, e_s7, e_s8, e_s9, e_s10, e_s11, e_s12, e_s13, e_t0, e_t1, e_t2, e_t3, e_t4, e_t5, e_t6, e_t7, e_t8, e_t9, e_t10, e_t11, e_t12, e_t13, e_fd, e_kk, e_k0, e_k1, e_k2, e_k3, e_k4, e_k5, e_k6, e_k7, e_k8, e_k9, e_sv0, e_sv1, e_sv2, e_sv3, e_svc, e_pf0, e_pf1, e_pf2, e_pf3, e_ar, e_aa, e_al, e_sw1, e_sw2, e_ct0, e_ct1, e_ct2, e_cat0, e_cat1, e_rk0, e_rk1, e_rk2, e_inv0, e_inv1, e_inv2, e_inv3, e_inv4, e_inv5, e_inv6, e_o0, e_o1, e_cl, e_cle, e_cg, e_cge, e_ce, e_cr1, e_cr2, e_r, e_R, e_up, Int.cast_ofNat_Int, u_app, false_and, and_false, e_b0, e_b1, e_bn, e_bl, e_bu, Int.reduceLE, Int.reduceLT, Int.reduceEq, Int.reduceNeg, Int.reduceAdd, Int.reduceSub, Int.reduceMul, Nat.reduceLeDiff, Nat.reduceLT, Nat.reduceAdd, Nat.reduceEqDiff, true_and, and_true, true_or, or_true, false_or, or_false, forall_const, not_true_eq_false, not_false_eq_true, true_implies, false_implies, implies_true, and_self, zero_ne_one, one_ne_zero, eq_self, reduceIte, s_X3_readNames_0, b_X3_readNames_0, s_X3_readNames_2, b_X3_readNames_2, s_X3_readNames_7, b_X3_readNames_7, s_X3_readNames_30, b_X3_readNames_30, s_X3_readNames_32, b_X3_readNames_32, s_X3_readNames_51, b_X3_readNames_51, g_X3_20, g_X3_14, G_X3_readNames_47, sp_X8_look_e, G_X3_readNames_51, sp_X2_boardNamed_e, G_X3_readNames_98, sp_X4_name_e, G_X3_readNames_57, sp_X8_step_e, e15]
    refine ⟨by omega, fun c => by omega, fun c => ⟨T, L, E, (c_sn T L nm k (0, i)).2, hat, p1, ?_⟩⟩
    by_cases ck : m_kd T L (c_sn T L nm k (0, i)).2 = 1
    · have hcd : 0 ≤ m_cd T L (c_sn T L nm k (0, i)).2 ∧ m_cd T L (c_sn T L nm k (0, i)).2 < 26 := ⟨hb.2.1.1, hb.2.2.1 ck⟩
      have ev : ν (P + 2) (m_cd T L (c_sn T L nm k (0, i)).2) = nm (m_cd T L (c_sn T L nm k (0, i)).2) := (hf.1 _ _ (by omega) (by omega) (by omega)).trans (p3 _ hcd.1 hcd.2)
      have hv := p4 (m_cd T L (c_sn T L nm k (0, i)).2)
      have hE := r5 (by omega)
      rw [if_pos ck, if_pos hcd, ev]
      refine ⟨by omega, by omega, fun c2 => ⟨h0, hr, by omega, T, L, E, (c_sn T L nm k (0, i)).2, ?_, hE, ?_⟩, fun c2 => bad (fun q => q.2 c2)⟩
      · refine c_at_s hat (by omega) (fun a j q => ?_) ?_
        · rw [u_app, if_neg (by omega), u_app, if_neg (by omega)]
        · rw [u_app, if_neg (by omega), u_app, if_neg (by omega)]
          exact hat.2.2.2
      · have es2 : c_sn T L nm (k + 1) (0, i) = (0, (c_sn T L nm k (0, i)).2 + 1) := by
          rw [es, q_bt ⟨ck, c2⟩]
          unfold m_ms
          rw [if_neg (by omega), if_pos rfl]
        rw [hc]
        refine ih (k + 1) _ _ (by omega) ⟨fun a j n1 n2 n3 => ?_, fun j => ?_⟩ (by rw [es2]) ?_ ?_ (fun j hj => ?_)
        · rw [u_app, if_neg (by omega), u_app, if_neg (by omega), u_app, if_neg (by omega)]
          exact hf.1 a j n1 n2 n3
        · rw [u_app, if_neg (by omega), u_app, if_neg (by omega), u_app]
          by_cases c3 : j = (k : Int)
          · rw [if_pos ⟨rfl, c3⟩]
            exact Or.inr (by omega)
          · rw [if_neg (fun q => c3 q.2)]
            exact hf.2 j
        · rw [es2]
          refine c_at_s hat (by omega) (fun a j q => ?_) ?_
          · rw [u_app, if_neg (by omega), u_app, if_neg (by omega), u_app, if_neg (by omega)]
          · rw [u_app, if_pos ⟨rfl, rfl⟩]
            omega
        · rw [u_app, if_neg (by omega), u_app, if_pos ⟨rfl, rfl⟩]
          omega
        · rw [u_app, if_neg (by omega), u_app, if_neg (by omega), u_app]
          by_cases c3 : j = k
          · rw [if_pos ⟨rfl, by omega⟩, c3]
          · rw [if_neg (by omega)]
            exact hs j (by omega)
    · rw [if_neg ck, if_neg (by omega)]
      exact ⟨by omega, by omega, fun c2 => absurd rfl c2, fun _ => bad (fun q => ck q.1)⟩
set_option maxRecDepth 100000 in
set_option maxHeartbeats 4000000 in
theorem B_X3_readNames : q_Body cX3_readNames 5 u_X3_readNames fl_X3 ld_X3 G_X3_readNames q_T 1 s_X3_readNames sp_X3_readNames := by
  intro S Rt hR ra μ h
  obtain ⟨this, recipe, names, rfl, h⟩ := sp_X3_readNames_i h
  refine ⟨by simp [q_sl, q_ct], ?_⟩
  show S 0 [some (.inr (.inr this)), some (.inr (.inr recipe)), some (.inl names), none, none] [] μ
  obtain ⟨rfl, h1, h2, P, nm, nn, T, L, E, i, hn, rfl, hn3, hat, hk⟩ := h
  refine hR 40 [] 0 _ _ _ rfl ?_
  simp only [v_opt_n, v_opt_s, v_nil, v_iconst, v_bipush, v_sipush, v_lconst0, v_lconst1, v_ldc, v_ldcw, v_ldc2, v_iload0, v_iload1, v_iload2, v_iload3, v_iload, v_lload0, v_lload1, v_lload2, v_lload3, v_lload, v_aload0, v_aload1, v_aload2, v_aload3, v_aload, v_istore0, v_istore1, v_istore2, v_istore3, v_istore, v_lstore0, v_lstore1, v_lstore2, v_lstore3, v_lstore, v_astore0, v_astore1, v_astore2, v_astore3, v_astore, v_iinc, v_iadd, v_isub, v_imul, v_iand, v_ior, v_ixor, v_ishl, v_ishr, v_iushr, v_ineg, v_idiv, v_irem, v_ladd, v_lsub, v_lmul, v_lcmp, v_i2l, v_l2i, v_i2c, v_dup, v_dup2, v_if_eq, v_if_ne, v_if_lt, v_if_ge, v_if_gt, v_if_le, v_ic_eq, v_ic_ne, v_ic_lt, v_ic_ge, v_ic_gt, v_ic_le, v_goto, v_tsw, v_lsw, v_ireturn, v_areturn, v_return, v_iaload, v_laload, v_baload, v_caload, v_aaload, v_iastore, v_lastore, v_bastore, v_castore, v_alen, v_invvi, v_invst, v_invsp, e_int, e_lng, e_ref, e_lg0, e_lg1, e_lg2, e_lg3, e_lg4, e_lg5, e_lg6, e_lg7, e_lg8, e_lg9, e_lg10, e_lg11, e_lg12, e_lg13, e_clrI, e_clrJ, e_clrP, e_clrN, e_s0, e_s1, e_s2, e_s3, e_s4, e_s5, e_s6, e_s7, e_s8, e_s9, e_s10, e_s11, e_s12, e_s13, e_t0, e_t1, e_t2, e_t3, e_t4, e_t5, e_t6, e_t7, e_t8, e_t9, e_t10, e_t11, e_t12, e_t13, e_fd, e_kk, e_k0, e_k1, e_k2, e_k3, e_k4, e_k5, e_k6, e_k7, e_k8, e_k9, e_sv0, e_sv1, e_sv2, e_sv3, e_svc, e_pf0, e_pf1, e_pf2, e_pf3, e_ar, e_aa, e_al, e_sw1, e_sw2, e_ct0, e_ct1, e_ct2, e_cat0, e_cat1, e_rk0, e_rk1, e_rk2, e_inv0, e_inv1, e_inv2, e_inv3, e_inv4, e_inv5, e_inv6, e_o0, e_o1, e_cl, e_cle, e_cg, e_cge, e_ce, e_cr1, e_cr2, e_r, e_R, e_up, Int.cast_ofNat_Int, u_app, false_and, and_false, e_b0, e_b1, e_bn, e_bl, e_bu, Int.reduceLE, Int.reduceLT, Int.reduceEq, Int.reduceNeg, Int.reduceAdd, Int.reduceSub, Int.reduceMul, Nat.reduceLeDiff, Nat.reduceLT, Nat.reduceAdd, Nat.reduceEqDiff, true_and, and_true, true_or, or_true, false_or, or_false, forall_const, not_true_eq_false, not_false_eq_true, true_implies, false_implies, implies_true, and_self, zero_ne_one, one_ne_zero, eq_self, reduceIte, s_X3_readNames_0, b_X3_readNames_0, s_X3_readNames_2, b_X3_readNames_2, s_X3_readNames_7, b_X3_readNames_7, s_X3_readNames_30, b_X3_readNames_30, s_X3_readNames_32, b_X3_readNames_32, s_X3_readNames_51, b_X3_readNames_51, g_X3_20, g_X3_14, G_X3_readNames_47, sp_X8_look_e, G_X3_readNames_51, sp_X2_boardNamed_e, G_X3_readNames_98, sp_X4_name_e, G_X3_readNames_57, sp_X8_step_e]
  exact rn_2 hR h1 hn hn3 hk nn 0 μ none (by omega) ⟨fun _ _ _ _ _ => rfl, fun _ => Or.inl rfl⟩ rfl hat h2 (fun j hj => by omega)
set_option maxRecDepth 100000 in
theorem C_X3_readNames {l : Launch} {ad : Int → Nat} {D : va_G} {cy : Nat → ClassId} {Z : State → Prop} (hZ : q_Zg ad Z) : q_Ct l q_T q_N ad D cy Z yX3_readNames cX3_readNames 5 (some .boolean) rm_X3_readNames sp_X3_readNames := by
  obtain ⟨hf, hg, hld⟩ := q_chkS k_X3_readNames
  refine q_met (rk := 1) q_wokT (by decide) rfl hf hg hld rfl (q_skS L_X3_readNames o_X3_readNames) ?_ ?_ ?_ ?_ B_X3_readNames
  · intro i hi; exact absurd hi List.not_mem_nil
  · intro i hi
    have hi : i = 47 ∨ i = 51 ∨ i = 98 ∨ i = 57 := by simpa [u_X3_readNames] using hi
    rcases hi with rfl | rfl | rfl | rfl
    · exact q_crV hZ.1 (C_X8_look hZ) rv_X8_look cm_X8_look (by decide +kernel) (by decide +kernel) (by decide +kernel) (by decide +kernel) (by decide +kernel) ⟨rfl, rfl⟩ (by decide)
    · exact q_crV hZ.1 (C_X2_boardNamed hZ) rv_X2_boardNamed cm_X2_boardNamed (by decide +kernel) (by decide +kernel) (by decide +kernel) (by decide +kernel) (by decide +kernel) ⟨rfl, rfl⟩ (by decide)
    · exact q_crV hZ.1 (C_X4_name hZ) rv_X4_name cm_X4_name (by decide +kernel) (by decide +kernel) (by decide +kernel) (by decide +kernel) (by decide +kernel) ⟨rfl, rfl⟩ (by decide)
    · exact q_crV hZ.1 (C_X8_step hZ) rv_X8_step cm_X8_step (by decide +kernel) (by decide +kernel) (by decide +kernel) (by decide +kernel) (by decide +kernel) ⟨rfl, rfl⟩ (by decide)
  · intro i hi; exact absurd hi List.not_mem_nil
  · intro i hi; exact absurd hi List.not_mem_nil
theorem rv_X3_readNames : q_rcv q_T yX3_readNames.cls sp_X3_readNames := by
  intro ra μ K h
  obtain ⟨this, recipe, names, rfl, h⟩ := sp_X3_readNames_i h
  obtain rfl := h.1
  exact ⟨[.inl names, .inr (.inr recipe)], 15, 3, _, _, rfl, T_15, rfl, rfl⟩
theorem cm_X3_readNames : Cond.code yX3_readNames cX3_readNames 5 (some .boolean) ∈ q_tb := by decide +kernel
def sp_X3_readSigned : QP := fun ra μ K => match ra with
  | [.inr (.inr recipe), .inr (.inr this)] => this = 15 ∧ q_rc recipe ∧ ∃ (T : Int → Int) (L : Int) (E i : Nat), c_at T L E i μ ∧ ∀ ν : QM, (∀ a j : Int, ¬ (a = 16 ∧ j = 5) → ¬ (a = recipe ∧ j = 4) → ν a j = μ a j) → c_at T L E (m_sN T L 0 1000000 (m_sG T L (0, i))).2 ν → ((m_sN T L 0 1000000 (m_sG T L (0, i))).1 = 0 → ν recipe 4 = (if m_isg T L 45 (0, i) then - m_cd T L (m_sG T L (0, i)).2 else m_cd T L (m_sG T L (0, i)).2)) → K (some (.inl (q_b ((m_sN T L 0 1000000 (m_sG T L (0, i))).1 = 0)))) ν
  | _ => False
theorem sp_X3_readSigned_e (this recipe : Int) (μ : QM) (K : Option QV → QM → Prop) : sp_X3_readSigned [.inr (.inr recipe), .inr (.inr this)] μ K = (this = 15 ∧ q_rc recipe ∧ ∃ (T : Int → Int) (L : Int) (E i : Nat), c_at T L E i μ ∧ ∀ ν : QM, (∀ a j : Int, ¬ (a = 16 ∧ j = 5) → ¬ (a = recipe ∧ j = 4) → ν a j = μ a j) → c_at T L E (m_sN T L 0 1000000 (m_sG T L (0, i))).2 ν → ((m_sN T L 0 1000000 (m_sG T L (0, i))).1 = 0 → ν recipe 4 = (if m_isg T L 45 (0, i) then - m_cd T L (m_sG T L (0, i)).2 else m_cd T L (m_sG T L (0, i)).2)) → K (some (.inl (q_b ((m_sN T L 0 1000000 (m_sG T L (0, i))).1 = 0)))) ν) := propext Iff.rfl
theorem sp_X3_readSigned_i {ra : List QV} {μ : QM} {K : Option QV → QM → Prop} (h : sp_X3_readSigned ra μ K) : ∃ this recipe : Int, ra = [.inr (.inr recipe), .inr (.inr this)] ∧ (this = 15 ∧ q_rc recipe ∧ ∃ (T : Int → Int) (L : Int) (E i : Nat), c_at T L E i μ ∧ ∀ ν : QM, (∀ a j : Int, ¬ (a = 16 ∧ j = 5) → ¬ (a = recipe ∧ j = 4) → ν a j = μ a j) → c_at T L E (m_sN T L 0 1000000 (m_sG T L (0, i))).2 ν → ((m_sN T L 0 1000000 (m_sG T L (0, i))).1 = 0 → ν recipe 4 = (if m_isg T L 45 (0, i) then - m_cd T L (m_sG T L (0, i)).2 else m_cd T L (m_sG T L (0, i)).2)) → K (some (.inl (q_b ((m_sN T L 0 1000000 (m_sG T L (0, i))).1 = 0)))) ν) := by
  unfold sp_X3_readSigned at h
  split at h
  · exact ⟨_, _, rfl, h⟩
  · exact h.elim
def rm_X3_readSigned : Room := { frames := 2, cells := 0, slots := 0, locals := 45 }
def G_X3_readSigned : Nat → Nat × QP := fun i => match i with
  | 43 => (2, sp_X8_pass)
  | 81 => (4, sp_X3_readNumber)
  | _ => (0, fun _ _ _ => False)
theorem G_X3_readSigned_43 : G_X3_readSigned 43 = (2, sp_X8_pass) := id rfl
theorem G_X3_readSigned_81 : G_X3_readSigned 81 = (4, sp_X3_readNumber) := id rfl
theorem c_ms_t {P : Prop} [Decidable P] {k : Nat} (h : P) : m_ms (0, k) (q_b P) = (0, k + 1) := by
  rw [q_bt h]
  unfold m_ms
  rw [if_neg (show ¬ (0 : Int) = 1 by decide), if_pos rfl]
theorem c_ms_f {P : Prop} [Decidable P] {k : Nat} (h : ¬ P) : m_ms (0, k) (q_b P) = (1, k) := by
  rw [q_bf h]
  unfold m_ms
  rw [if_neg (show ¬ (0 : Int) = 1 by decide), if_neg (by decide)]
theorem c_z1 : ¬ (1 : Int) = 0 := by decide
set_option maxRecDepth 100000 in
set_option maxHeartbeats 4000000 in
theorem B_X3_readSigned : q_Body cX3_readSigned 3 u_X3_readSigned fl_X3 ld_X3 G_X3_readSigned q_T 1 s_X3_readSigned sp_X3_readSigned := by
  intro S Rt hR ra μ h
  obtain ⟨this, recipe, rfl, h⟩ := sp_X3_readSigned_i h
  refine ⟨by simp [q_sl, q_ct], ?_⟩
  show S 0 [some (.inr (.inr this)), some (.inr (.inr recipe)), none] [] μ
  obtain ⟨rfl, h1, T, L, E, i, hat, hk⟩ := h
  have hT := T_rec h1
  have h0 : 0 ≤ recipe := by omega
  obtain ⟨r1, r2, r5, r6, r7⟩ := c_at_r hat
  refine hR 40 [] 0 _ _ _ rfl ?_
  simp only [v_opt_n, v_opt_s, v_nil, v_iconst, v_bipush, v_sipush, v_lconst0, v_lconst1, v_ldc, v_ldcw, v_ldc2, v_iload0, v_iload1, v_iload2, v_iload3, v_iload, v_lload0, v_lload1, v_lload2, v_lload3, v_lload, v_aload0, v_aload1, v_aload2, v_aload3, v_aload, v_istore0, v_istore1, v_istore2, v_istore3, v_istore, v_lstore0, v_lstore1, v_lstore2, v_lstore3, v_lstore, v_astore0, v_astore1, v_astore2, v_astore3, v_astore, v_iinc, v_iadd, v_isub, v_imul, v_iand, v_ior, v_ixor, v_ishl, v_ishr, v_iushr, v_ineg, v_idiv, v_irem, v_ladd, v_lsub, v_lmul, v_lcmp, v_i2l, v_l2i, v_i2c, v_dup, v_dup2, v_if_eq, v_if_ne, v_if_lt, v_if_ge, v_if_gt, v_if_le, v_ic_eq, v_ic_ne, v_ic_lt, v_ic_ge, v_ic_gt, v_ic_le, v_goto, v_tsw, v_lsw, v_ireturn, v_areturn, v_return, v_iaload, v_laload, v_baload, v_caload, v_aaload, v_iastore, v_lastore, v_bastore, v_castore, v_alen, v_invvi, v_invst, v_invsp, e_int, e_lng, e_ref, e_lg0, e_lg1, e_lg2, e_lg3, e_lg4, e_lg5, e_lg6, e_lg7, e_lg8, e_lg9, e_lg10, e_lg11, e_lg12, e_lg13, e_clrI, e_clrJ, e_clrP, e_clrN, e_s0, e_s1, e_s2, e_s3, e_s4, e_s5, e_s6, e_s7, e_s8, e_s9, e_s10, e_s11, e_s12, e_s13, e_t0, e_t1, e_t2, e_t3, e_t4, e_t5, e_t6, e_t7, e_t8, e_t9, e_t10, e_t11, e_t12, e_t13, e_fd, e_kk, e_k0, e_k1, e_k2, e_k3, e_k4, e_k5, e_k6, e_k7, e_k8, e_k9, e_sv0, e_sv1, e_sv2, e_sv3, e_svc, e_pf0, e_pf1, e_pf2, e_pf3, e_ar, e_aa, e_al, e_sw1, e_sw2, e_ct0, e_ct1, e_ct2, e_cat0, e_cat1, e_rk0, e_rk1, e_rk2, e_inv0, e_inv1, e_inv2, e_inv3, e_inv4, e_inv5, e_inv6, e_o0, e_o1, e_cl, e_cle, e_cg, e_cge, e_ce, e_cr1, e_cr2, e_r, e_R, e_up, Int.cast_ofNat_Int, u_app, false_and, and_false, e_b0, e_b1, e_bn, e_bl, e_bu, Int.reduceLE, Int.reduceLT, Int.reduceEq, Int.reduceNeg, Int.reduceAdd, Int.reduceSub, Int.reduceMul, Nat.reduceLeDiff, Nat.reduceLT, Nat.reduceAdd, Nat.reduceEqDiff, true_and, and_true, true_or, or_true, false_or, or_false, forall_const, not_true_eq_false, not_false_eq_true, true_implies, false_implies, implies_true, and_self, zero_ne_one, one_ne_zero, eq_self, reduceIte, v_getf, v_putf, s_X3_readSigned_0, b_X3_readSigned_0, s_X3_readSigned_21, b_X3_readSigned_21, s_X3_readSigned_23, b_X3_readSigned_23, s_X3_readSigned_27, b_X3_readSigned_27, s_X3_readSigned_36, b_X3_readSigned_36, fl_X3_14, T_15, fl_X3_101, ld_X3_104, G_X3_readSigned_43, sp_X8_pass_e, G_X3_readSigned_81, sp_X3_readNumber_e, hT]
  refine ⟨T, L, E, i, hat, fun c => ?_, fun c => ?_⟩
  · have hE := r5 (by rw [c.1]; decide)
    have hat2 : c_at T L E (i + 1) (q_up μ 16 5 ((i : Int) + 1)) := by
      refine c_at_s hat (by omega) (fun a j q => ?_) ?_
      · rw [u_app, if_neg (by omega)]
      · rw [u_app, if_pos ⟨rfl, rfl⟩]
        omega
    have e1 : m_sG T L (0, i) = (0, i + 1) := if_pos ⟨rfl, c⟩
    rw [e1, if_pos (show m_isg T L 45 (0, i) from ⟨rfl, c⟩)] at hk
    refine ⟨h0, h1, T, L, E, i + 1, hat2, fun ok hE2 => ⟨h0, h0, ?_⟩, fun nok => ?_⟩
    · have e2 : m_sN T L 0 1000000 (0, i + 1) = (0, i + 1 + 1) := c_ms_t ok
      rw [e2, q_bt rfl] at hk
      refine hk _ (fun a j n1 n2 => ?_) (c_at_s hat hE2 (fun a j q => ?_) ?_) (fun _ => ?_)
      · rw [u_app, if_neg (by omega), u_app, if_neg (by omega), u_app, if_neg (by omega), u_app, if_neg (by omega)]
      · rw [u_app, if_neg (by omega), u_app, if_neg (by omega), u_app, if_neg (by omega), u_app, if_neg (by omega)]
      · rw [u_app, if_neg (by omega), u_app, if_pos ⟨rfl, rfl⟩]
        omega
      · rw [u_app, if_pos ⟨rfl, rfl⟩]
    · have e2 : m_sN T L 0 1000000 (0, i + 1) = (1, i + 1) := c_ms_f nok
      rw [e2, q_bf c_z1] at hk
      refine hk _ (fun a j n1 n2 => ?_) hat2 (fun q => absurd q c_z1)
      rw [u_app, if_neg (by omega)]
  · have e1 : m_sG T L (0, i) = (0, i) := if_neg (fun q => c q.2)
    rw [e1, if_neg (show ¬ m_isg T L 45 (0, i) from fun q => c q.2)] at hk
    refine ⟨h0, h1, T, L, E, i, hat, fun ok hE2 => ?_, fun nok => ?_⟩
    · have e2 : m_sN T L 0 1000000 (0, i) = (0, i + 1) := c_ms_t ok
      rw [e2, q_bt rfl] at hk
      refine hk _ (fun a j n1 n2 => ?_) (c_at_s hat hE2 (fun a j q => ?_) ?_) (fun _ => ?_)
      · rw [u_app, if_neg (by omega), u_app, if_neg (by omega)]
      · rw [u_app, if_neg (by omega), u_app, if_neg (by omega)]
      · rw [u_app, if_pos ⟨rfl, rfl⟩]
        omega
      · rw [u_app, if_neg (by omega), u_app, if_pos ⟨rfl, rfl⟩]
    · have e2 : m_sN T L 0 1000000 (0, i) = (1, i) := c_ms_f nok
      rw [e2, q_bf c_z1] at hk
      exact hk _ (fun a j n1 n2 => rfl) hat (fun q => absurd q c_z1)
set_option maxRecDepth 100000 in
theorem C_X3_readSigned {l : Launch} {ad : Int → Nat} {D : va_G} {cy : Nat → ClassId} {Z : State → Prop} (hZ : q_Zg ad Z) : q_Ct l q_T q_N ad D cy Z yX3_readSigned cX3_readSigned 3 (some .boolean) rm_X3_readSigned sp_X3_readSigned := by
  obtain ⟨hf, hg, hld⟩ := q_chkS k_X3_readSigned
  refine q_met (rk := 1) q_wokT (by decide) rfl hf hg hld rfl (q_skS L_X3_readSigned o_X3_readSigned) ?_ ?_ ?_ ?_ B_X3_readSigned
  · intro i hi; exact absurd hi List.not_mem_nil
  · intro i hi
    have hi : i = 43 ∨ i = 81 := by simpa [u_X3_readSigned] using hi
    rcases hi with rfl | rfl
    · exact q_crV hZ.1 (C_X8_pass hZ) rv_X8_pass cm_X8_pass (by decide +kernel) (by decide +kernel) (by decide +kernel) (by decide +kernel) (by decide +kernel) ⟨rfl, rfl⟩ (by decide)
    · exact q_crV hZ.1 (C_X3_readNumber hZ) rv_X3_readNumber cm_X3_readNumber (by decide +kernel) (by decide +kernel) (by decide +kernel) (by decide +kernel) (by decide +kernel) ⟨rfl, rfl⟩ (by decide)
  · intro i hi; exact absurd hi List.not_mem_nil
  · intro i hi; exact absurd hi List.not_mem_nil
theorem rv_X3_readSigned : q_rcv q_T yX3_readSigned.cls sp_X3_readSigned := by
  intro ra μ K h
  obtain ⟨this, recipe, rfl, h⟩ := sp_X3_readSigned_i h
  obtain rfl := h.1
  exact ⟨[.inr (.inr recipe)], 15, 3, _, _, rfl, T_15, rfl, rfl⟩
theorem cm_X3_readSigned : Cond.code yX3_readSigned cX3_readSigned 3 (some .boolean) ∈ q_tb := by decide +kernel

