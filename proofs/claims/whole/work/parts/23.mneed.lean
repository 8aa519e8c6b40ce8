/-! the reference: what a tile needs -/
def sp_X11_needOf : QP := fun ra μ K => match ra with
  | [.inl tiles, .inl board, .inr (.inr this)] => this = 85 ∧ (0 ≤ board ∧ board < 10) ∧ (0 ≤ μ 89 board ∧ μ 89 board ≤ 12) ∧ (μ 89 board = 10 → 1 ≤ μ 91 board ∧ μ 91 board ≤ 3) ∧ m_dim (μ 85 2) (μ 85 3) ∧ m_sub (μ 85 2) (μ 85 3) tiles ∧ K (some (.inl (if μ 89 board = 0 then 0 else q_need (μ 85 2) (μ 85 3) (μ 89 board) tiles))) μ
  | _ => False
theorem sp_X11_needOf_e (this board tiles : Int) (μ : QM) (K : Option QV → QM → Prop) : sp_X11_needOf [.inl tiles, .inl board, .inr (.inr this)] μ K = (this = 85 ∧ (0 ≤ board ∧ board < 10) ∧ (0 ≤ μ 89 board ∧ μ 89 board ≤ 12) ∧ (μ 89 board = 10 → 1 ≤ μ 91 board ∧ μ 91 board ≤ 3) ∧ m_dim (μ 85 2) (μ 85 3) ∧ m_sub (μ 85 2) (μ 85 3) tiles ∧ K (some (.inl (if μ 89 board = 0 then 0 else q_need (μ 85 2) (μ 85 3) (μ 89 board) tiles))) μ) := propext Iff.rfl
theorem sp_X11_needOf_i {ra : List QV} {μ : QM} {K : Option QV → QM → Prop} (h : sp_X11_needOf ra μ K) : ∃ this board tiles : Int, ra = [.inl tiles, .inl board, .inr (.inr this)] ∧ (this = 85 ∧ (0 ≤ board ∧ board < 10) ∧ (0 ≤ μ 89 board ∧ μ 89 board ≤ 12) ∧ (μ 89 board = 10 → 1 ≤ μ 91 board ∧ μ 91 board ≤ 3) ∧ m_dim (μ 85 2) (μ 85 3) ∧ m_sub (μ 85 2) (μ 85 3) tiles ∧ K (some (.inl (if μ 89 board = 0 then 0 else q_need (μ 85 2) (μ 85 3) (μ 89 board) tiles))) μ) := by
  unfold sp_X11_needOf at h
  split at h
  · exact ⟨_, _, _, rfl, h⟩
  · exact h.elim
def rm_X11_needOf : Room := { frames := 3, cells := 0, slots := 0, locals := 68 }
def G_X11_needOf : Nat → Nat × QP := fun i => match i with
  | 138 => (1, sp_X11_allTiles)
  | 113 => (3, sp_X11_isCell)
  | 121 => (2, sp_X11_tileOf)
  | _ => (0, fun _ _ _ => False)
theorem G_X11_needOf_138 : G_X11_needOf 138 = (1, sp_X11_allTiles) := id rfl
theorem G_X11_needOf_113 : G_X11_needOf 113 = (3, sp_X11_isCell) := id rfl
theorem G_X11_needOf_121 : G_X11_needOf 121 = (2, sp_X11_tileOf) := id rfl
set_option maxRecDepth 100000 in
theorem need_a {Rt : Option QV → QM → Prop} {S : Nat → QL → List QV → QM → Prop} (hR : q_Rule cX11_needOf 9 u_X11_needOf fl_X11 ld_X11 G_X11_needOf q_T 0 s_X11_needOf Rt S) {μ : QM} {w h : Int} (ew : μ 85 2 = w) (eh : μ 85 3 = h) (hd : m_dim w h) {B tiles r y x b : Int} (hr : 1 ≤ r ∧ r ≤ 3) (hx : 0 ≤ x ∧ x < w) (hy : 0 ≤ y ∧ y < h) (hb : y - r ≤ b ∧ b ≤ y + r) : ∀ (n : Nat) (a all : Int), x - r ≤ a → a ≤ x + r + 1 → x + r + 1 - a < n → q_mk all →
    (∀ (m : Int) (l8 : Option QV), q_mk m → (∀ t : Nat, q_bit m t = true ↔ q_bit all t = true ∨ ∃ c : Int, a ≤ c ∧ c ≤ x + r ∧ (0 ≤ c ∧ c < w ∧ 0 ≤ b ∧ b < h) ∧ (t : Int) = b / 4 * 3 + c / 4) → S 107 [some (.inr (.inr 85)), some (.inl B), some (.inl tiles), some (.inl m), some (.inl r), some (.inl y), some (.inl x), some (.inl (b + 1)), l8] [] μ) →
    S 139 [some (.inr (.inr 85)), some (.inl B), some (.inl tiles), some (.inl all), some (.inl r), some (.inl y), some (.inl x), some (.inl b), some (.inl a)] [] μ := by
  intro n
  induction n with
  | zero => intro a all h1 h2 h3; omega
  | succ n ih =>
    intro a all h1 h2 h3 h4 hk
    refine hR 60 b_X11_needOf_139 139 _ _ _ o_X11_needOf_139 ?_
    simp only [v_opt_n, v_opt_s, v_nil, v_iconst, v_bipush, v_sipush, v_lconst0, v_lconst1, v_ldc, v_ldcw, v_ldc2, v_iload0, v_iload1, v_iload2, v_iload3, v_iload, v_lload0, v_lload1, v_lload2, v_lload3, v_lload, v_aload0, v_aload1, v_aload2, v_aload3, v_aload, v_istore0, v_istore1, v_istore2, v_istore3, v_istore, v_lstore0, v_lstore1, v_lstore2, v_lstore3, v_lstore, v_astore0, v_astore1, v_astore2, v_astore3, v_astore, v_iinc, v_iadd, v_isub, v_imul, v_iand, v_ior, v_ixor, v_ishl, v_ishr, v_iushr, v_ineg, v_idiv, v_irem, v_ladd, v_lsub, v_lmul, v_lcmp, v_i2l, v_l2i, v_i2c, v_dup, v_dup2, v_if_eq, v_if_ne, v_if_lt, v_if_ge, v_if_gt, v_if_le, v_ic_eq, v_ic_ne, v_ic_lt, v_ic_ge, v_ic_gt, v_ic_le, v_goto, v_tsw, v_lsw, v_ireturn, v_areturn, v_return, v_iaload, v_laload, v_baload, v_caload, v_aaload, v_iastore, v_lastore, v_bastore, v_castore, v_alen, v_invvi, v_invst, v_invsp, e_int, e_lng, e_ref, e_lg0, e_lg1, e_lg2, e_lg3, e_lg4, e_lg5, e_lg6, e_lg7, e_lg8, e_lg9, e_lg10, e_lg11, e_lg12, e_lg13, e_clrI, e_clrJ, e_clrP, e_clrN, e_s0, e_s1, e_s2, e_s3, e_s4, e_s5, e_s6, e_s7, e_s8, e_s9, e_s10, e_s11, e_s12, e_s13, e_t0, e_t1, e_t2, e_t3, e_t4, e_t5, e_t6, e_t7, e_t8, e_t9, e_t10, e_t11, e_t12, e_t13, e_fd, e_kk, e_k0, e_k1, e_k2, e_k3, e_k4, e_k5, e_k6, e_k7, e_k8, e_k9, e_sv0, e_sv1, e_sv2, e_sv3, e_svc, e_pf0, e_pf1, e_pf2, e_pf3, e_ar, e_aa, e_al, e_sw1, e_sw2, e_ct0, e_ct1, e_ct2, e_cat0, e_cat1, e_rk0, e_rk1, e_rk2, e_inv0, e_inv1, e_inv2, e_inv3, e_inv4, e_inv5, e_inv6, e_o0, e_o1, e_cl, e_cle, e_cg, e_cge, e_ce, e_cr1, e_cr2, e_r, e_R, e_up, Int.cast_ofNat_Int, u_app, false_and, and_false, e_b0, e_b1, e_bn, e_bl, e_bu, Int.reduceLE, Int.reduceLT, Int.reduceEq, Int.reduceNeg, Int.reduceAdd, Int.reduceSub, Int.reduceMul, Nat.reduceLeDiff, Nat.reduceLT, Nat.reduceAdd, Nat.reduceEqDiff, true_and, and_true, true_or, or_true, false_or, or_false, forall_const, not_true_eq_false, not_false_eq_true, true_implies, false_implies, implies_true, and_self, zero_ne_one, one_ne_zero, eq_self, reduceIte, s_X11_needOf_0, b_X11_needOf_0, s_X11_needOf_4, b_X11_needOf_4, s_X11_needOf_13, b_X11_needOf_13, s_X11_needOf_15, b_X11_needOf_15, s_X11_needOf_26, b_X11_needOf_26, s_X11_needOf_37, b_X11_needOf_37, s_X11_needOf_48, b_X11_needOf_48, s_X11_needOf_53, b_X11_needOf_53, s_X11_needOf_64, b_X11_needOf_64, s_X11_needOf_66, b_X11_needOf_66, s_X11_needOf_79, b_X11_needOf_79, s_X11_needOf_88, b_X11_needOf_88, s_X11_needOf_91, b_X11_needOf_91, s_X11_needOf_100, b_X11_needOf_100, s_X11_needOf_107, b_X11_needOf_107, s_X11_needOf_117, b_X11_needOf_117, s_X11_needOf_132, b_X11_needOf_132, s_X11_needOf_139, b_X11_needOf_139, s_X11_needOf_149, b_X11_needOf_149, s_X11_needOf_161, b_X11_needOf_161, s_X11_needOf_173, b_X11_needOf_173, s_X11_needOf_174, b_X11_needOf_174, s_X11_needOf_182, b_X11_needOf_182, s_X11_needOf_188, b_X11_needOf_188, s_X11_needOf_194, b_X11_needOf_194, s_X11_needOf_200, b_X11_needOf_200, g_X11_27, g_X11_33, g_X11_13, g_X11_7, G_X11_needOf_138, sp_X11_allTiles_e, G_X11_needOf_113, sp_X11_isCell_e, G_X11_needOf_121, sp_X11_tileOf_e, ew, eh]
    refine ⟨by omega, fun c => hk all _ h4 (fun t => ⟨Or.inl, fun q => q.elim id (fun ⟨c9, q1, q2, _⟩ => by omega)⟩), fun c => ⟨by omega, fun c2 => ?_, fun c2 => ⟨by omega, ?_⟩⟩⟩
    · refine ih (a + 1) (q_or all 0) (by omega) (by omega) (by omega) (q_mk_or h4 q_mk_0) (fun m l8 hm hb9 => hk m l8 hm (fun t => ?_))
      rw [hb9 t, bt_or, bt_0, Bool.or_false]
      constructor
      · rintro (q | ⟨c9, q1, q2, q3⟩)
        · exact Or.inl q
        · exact Or.inr ⟨c9, by omega, q2, q3⟩
      · rintro (q | ⟨c9, q1, q2, q3⟩)
        · exact Or.inl q
        · exact Or.inr ⟨c9, by
            by_cases e : c9 = a
            · subst e; exact absurd q3.1 c2
            · omega, q2, q3⟩
    · have c3 := Classical.not_not.mp c2
      refine ih (a + 1) _ (by omega) (by omega) (by omega) (q_mk_or h4 (q_mk_one (k := b / 4 * 3 + a / 4) (by omega) (by omega))) (fun m l8 hm hb9 => hk m l8 hm (fun t => ?_))
      rw [hb9 t, bt_or, bt_one (by omega) (by omega)]
      constructor
      · rintro (q | ⟨c9, q1, q2, q3⟩)
        · rcases Bool.or_eq_true_iff.mp q with q | q
          · exact Or.inl q
          · exact Or.inr ⟨a, by omega, by omega, c3, of_decide_eq_true q⟩
        · exact Or.inr ⟨c9, by omega, q2, q3⟩
      · rintro (q | ⟨c9, q1, q2, q3⟩)
        · exact Or.inl (Bool.or_eq_true_iff.mpr (Or.inl q))
        · by_cases e : c9 = a
          · subst e
            exact Or.inl (Bool.or_eq_true_iff.mpr (Or.inr (decide_eq_true q3.2)))
          · exact Or.inr ⟨c9, by omega, q2, q3⟩
/-- cells within r of (x, y) in tile t -/
abbrev m_nr (w h r x b : Int) (t : Nat) : Prop := ∃ c : Int, x - r ≤ c ∧ c ≤ x + r ∧ (0 ≤ c ∧ c < w ∧ 0 ≤ b ∧ b < h) ∧ (t : Int) = b / 4 * 3 + c / 4
set_option maxRecDepth 100000 in
theorem need_b {Rt : Option QV → QM → Prop} {S : Nat → QL → List QV → QM → Prop} (hR : q_Rule cX11_needOf 9 u_X11_needOf fl_X11 ld_X11 G_X11_needOf q_T 0 s_X11_needOf Rt S) {μ : QM} {w h : Int} (ew : μ 85 2 = w) (eh : μ 85 3 = h) (hd : m_dim w h) {B tiles r y x : Int} (ht : q_mk tiles) (hr : 1 ≤ r ∧ r ≤ 3) (hx : 0 ≤ x ∧ x < w) (hy : 0 ≤ y ∧ y < h) : ∀ (n : Nat) (b all : Int) (l8 : Option QV), y - r ≤ b → b ≤ y + r + 1 → y + r + 1 - b < n → q_mk all →
    (∀ (m : Int) (l7 l8 : Option QV), q_mk m → (∀ t : Nat, q_bit m t = true ↔ q_bit all t = true ∨ (q_bit tiles (y / 4 * 3 + x / 4).toNat = true ∧ ∃ b' : Int, b ≤ b' ∧ b' ≤ y + r ∧ m_nr w h r x b' t)) → S 91 [some (.inr (.inr 85)), some (.inl B), some (.inl tiles), some (.inl m), some (.inl r), some (.inl y), some (.inl (x + 1)), l7, l8] [] μ) →
    S 107 [some (.inr (.inr 85)), some (.inl B), some (.inl tiles), some (.inl all), some (.inl r), some (.inl y), some (.inl x), some (.inl b), l8] [] μ := by
  intro n
  induction n with
  | zero => intro b all l8 h1 h2 h3; omega
  | succ n ih =>
    intro b all l8 h1 h2 h3 h4 hk
    have h0 := q_mk_nn ht
    have hu := q_mk_le ht
    refine hR 60 b_X11_needOf_107 107 _ _ _ o_X11_needOf_107 ?_
    simp only [v_opt_n, v_opt_s, v_nil, v_iconst, v_bipush, v_sipush, v_lconst0, v_lconst1, v_ldc, v_ldcw, v_ldc2, v_iload0, v_iload1, v_iload2, v_iload3, v_iload, v_lload0, v_lload1, v_lload2, v_lload3, v_lload, v_aload0, v_aload1, v_aload2, v_aload3, v_aload, v_istore0, v_istore1, v_istore2, v_istore3, v_istore, v_lstore0, v_lstore1, v_lstore2, v_lstore3, v_lstore, v_astore0, v_astore1, v_astore2, v_astore3, v_astore, v_iinc, v_iadd, v_isub, v_imul, v_iand, v_ior, v_ixor, v_ishl, v_ishr, v_iushr, v_ineg, v_idiv, v_irem, v_ladd, v_lsub, v_lmul, v_lcmp, v_i2l, v_l2i, v_i2c, v_dup, v_dup2, v_if_eq, v_if_ne, v_if_lt, v_if_ge, v_if_gt, v_if_le, v_ic_eq, v_ic_ne, v_ic_lt, v_ic_ge, v_ic_gt, v_ic_le, v_goto, v_tsw, v_lsw, v_ireturn, v_areturn, v_return, v_iaload, v_laload, v_baload, v_caload, v_aaload, v_iastore, v_lastore, v_bastore, v_castore, v_alen, v_invvi, v_invst, v_invsp, e_int, e_lng, e_ref, e_lg0, e_lg1, e_lg2, e_lg3, e_lg4, e_lg5, e_lg6, e_lg7, e_lg8, e_lg9, e_lg10, e_lg11, e_lg12, e_lg13, e_clrI, e_clrJ, e_clrP, e_clrN, e_s0, e_s1, e_s2, e_s3, e_s4, e_s5, e_s6, e_s7, e_s8, e_s9, e_s10, e_s11, e_s12, e_s13, e_t0, e_t1, e_t2, e_t3, e_t4, e_t5, e_t6, e_t7, e_t8, e_t9, e_t10, e_t11, e_t12, e_t13, e_fd, e_kk, e_k0, e_k1, e_k2, e_k3, e_k4, e_k5, e_k6, e_k7, e_k8, e_k9, e_sv0, e_sv1, e_sv2, e_sv3, e_svc, e_pf0, e_pf1, e_pf2, e_pf3, e_ar, e_aa, e_al, e_sw1, e_sw2, e_ct0, e_ct1, e_ct2, e_cat0, e_cat1, e_rk0, e_rk1, e_rk2, e_inv0, e_inv1, e_inv2, e_inv3, e_inv4, e_inv5, e_inv6, e_o0, e_o1, e_cl, e_cle, e_cg, e_cge, e_ce, e_cr1, e_cr2, e_r, e_R, e_up, Int.cast_ofNat_Int, u_app, false_and, and_false, e_b0, e_b1, e_bn, e_bl, e_bu, Int.reduceLE, Int.reduceLT, Int.reduceEq, Int.reduceNeg, Int.reduceAdd, Int.reduceSub, Int.reduceMul, Nat.reduceLeDiff, Nat.reduceLT, Nat.reduceAdd, Nat.reduceEqDiff, true_and, and_true, true_or, or_true, false_or, or_false, forall_const, not_true_eq_false, not_false_eq_true, true_implies, false_implies, implies_true, and_self, zero_ne_one, one_ne_zero, eq_self, reduceIte, s_X11_needOf_0, b_X11_needOf_0, s_X11_needOf_4, b_X11_needOf_4, s_X11_needOf_13, b_X11_needOf_13, s_X11_needOf_15, b_X11_needOf_15, s_X11_needOf_26, b_X11_needOf_26, s_X11_needOf_37, b_X11_needOf_37, s_X11_needOf_48, b_X11_needOf_48, s_X11_needOf_53, b_X11_needOf_53, s_X11_needOf_64, b_X11_needOf_64, s_X11_needOf_66, b_X11_needOf_66, s_X11_needOf_79, b_X11_needOf_79, s_X11_needOf_88, b_X11_needOf_88, s_X11_needOf_91, b_X11_needOf_91, s_X11_needOf_100, b_X11_needOf_100, s_X11_needOf_107, b_X11_needOf_107, s_X11_needOf_117, b_X11_needOf_117, s_X11_needOf_132, b_X11_needOf_132, s_X11_needOf_139, b_X11_needOf_139, s_X11_needOf_149, b_X11_needOf_149, s_X11_needOf_161, b_X11_needOf_161, s_X11_needOf_173, b_X11_needOf_173, s_X11_needOf_174, b_X11_needOf_174, s_X11_needOf_182, b_X11_needOf_182, s_X11_needOf_188, b_X11_needOf_188, s_X11_needOf_194, b_X11_needOf_194, s_X11_needOf_200, b_X11_needOf_200, g_X11_27, g_X11_33, g_X11_13, g_X11_7, G_X11_needOf_138, sp_X11_allTiles_e, G_X11_needOf_113, sp_X11_isCell_e, G_X11_needOf_121, sp_X11_tileOf_e, ew, eh]
    refine ⟨by omega, fun c => hk all _ _ h4 (fun t => ⟨Or.inl, fun q => q.elim id (fun ⟨_, c9, q1, q2, _⟩ => by omega)⟩), fun c => ⟨by omega, ?_⟩⟩
    rw [bt_get h0 hu (by omega) (by omega), e_b1, e_bl, e_bu]
    refine ⟨by decide, fun c2 => hk all _ _ h4 (fun t => ⟨Or.inl, fun q => q.elim id (fun ⟨q0, _⟩ => absurd q0 c2)⟩), fun c2 => ?_⟩
    refine need_a hR ew eh hd hr hx hy ⟨h1, by omega⟩ (2 * r + 2).toNat (x - r) all (by omega) (by omega) (by omega) h4 (fun m l8 hm hb9 => ?_)
    refine ih (b + 1) m l8 (by omega) (by omega) (by omega) hm (fun m2 l7 l8 hm2 hb2 => hk m2 l7 l8 hm2 (fun t => ?_))
    rw [hb2 t, hb9 t]
    constructor
    · rintro ((q | q) | ⟨q0, b9, q1, q2, q3⟩)
      · exact Or.inl q
      · exact Or.inr ⟨c2, b, by omega, by omega, q⟩
      · exact Or.inr ⟨q0, b9, by omega, q2, q3⟩
    · rintro (q | ⟨q0, b9, q1, q2, q3⟩)
      · exact Or.inl (Or.inl q)
      · by_cases e : b9 = b
        · subst e
          exact Or.inl (Or.inr q3)
        · exact Or.inr ⟨q0, b9, by omega, q2, q3⟩
set_option maxRecDepth 100000 in
theorem need_x {Rt : Option QV → QM → Prop} {S : Nat → QL → List QV → QM → Prop} (hR : q_Rule cX11_needOf 9 u_X11_needOf fl_X11 ld_X11 G_X11_needOf q_T 0 s_X11_needOf Rt S) {μ : QM} {w h : Int} (ew : μ 85 2 = w) (eh : μ 85 3 = h) (hd : m_dim w h) {B tiles r y : Int} (ht : q_mk tiles) (hr : 1 ≤ r ∧ r ≤ 3) (hy : 0 ≤ y ∧ y < h) : ∀ (n : Nat) (x all : Int) (l7 l8 : Option QV), 0 ≤ x → x ≤ w → w - x < n → q_mk all →
    (∀ (m : Int) (l6 l7 l8 : Option QV), q_mk m → (∀ t : Nat, q_bit m t = true ↔ q_bit all t = true ∨ ∃ x' : Int, x ≤ x' ∧ x' < w ∧ (q_bit tiles (y / 4 * 3 + x' / 4).toNat = true ∧ ∃ b' : Int, y - r ≤ b' ∧ b' ≤ y + r ∧ m_nr w h r x' b' t)) → S 79 [some (.inr (.inr 85)), some (.inl B), some (.inl tiles), some (.inl m), some (.inl r), some (.inl (y + 1)), l6, l7, l8] [] μ) →
    S 91 [some (.inr (.inr 85)), some (.inl B), some (.inl tiles), some (.inl all), some (.inl r), some (.inl y), some (.inl x), l7, l8] [] μ := by
  intro n
  induction n with
  | zero => intro x all l7 l8 h1 h2 h3; omega
  | succ n ih =>
    intro x all l7 l8 h1 h2 h3 h4 hk
    refine hR 60 b_X11_needOf_91 91 _ _ _ o_X11_needOf_91 ?_
    simp only [v_opt_n, v_opt_s, v_nil, v_iconst, v_bipush, v_sipush, v_lconst0, v_lconst1, v_ldc, v_ldcw, v_ldc2, v_iload0, v_iload1, v_iload2, v_iload3, v_iload, v_lload0, v_lload1, v_lload2, v_lload3, v_lload, v_aload0, v_aload1, v_aload2, v_aload3, v_aload, v_istore0, v_istore1, v_istore2, v_istore3, v_istore, v_lstore0, v_lstore1, v_lstore2, v_lstore3, v_lstore, v_astore0, v_astore1, v_astore2, v_astore3, v_astore, v_iinc, v_iadd, v_isub, v_imul, v_iand, v_ior, v_ixor, v_ishl, v_ishr, v_iushr, v_ineg, v_idiv, v_irem, v_ladd, v_lsub, v_lmul, v_lcmp, v_i2l, v_l2i, v_i2c, v_dup, v_dup2, v_if_eq, v_if_ne, v_if_lt, v_if_ge, v_if_gt, v_if_le, v_ic_eq, v_ic_ne, v_ic_lt, v_ic_ge, v_ic_gt, v_ic_le, v_goto, v_tsw, v_lsw, v_ireturn, v_areturn, v_return, v_iaload, v_laload, v_baload, v_caload, v_aaload, v_iastore, v_lastore, v_bastore, v_castore, v_alen, v_invvi, v_invst, v_invsp, e_int, e_lng, e_ref, e_lg0, e_lg1, e_lg2, e_lg3, e_lg4, e_lg5, e_lg6, e_lg7, e_lg8, e_lg9, e_lg10, e_lg11, e_lg12, e_lg13, e_clrI, e_clrJ, e_clrP, e_clrN, e_s0, e_s1, e_s2, e_s3, e_s4, e_s5, e_s6, e_s7, e_s8, e_s9, e_s10, e_s11, e_s12, e_s13, e_t0, e_t1, e_t2, e_t3, e_t4, e_t5, e_t6, e_t7, e_t8, e_t9, e_t10, e_t11, e_t12, e_t13, e_fd, e_kk, e_k0, e_k1, e_k2, e_k3, e_k4, e_k5, e_k6, e_k7, e_k8, e_k9, e_sv0, e_sv1, e_sv2, e_sv3, e_svc, e_pf0, e_pf1, e_pf2, e_pf3, e_ar, e_aa, e_al, e_sw1, e_sw2, e_ct0, e_ct1, e_ct2, e_cat0, e_cat1, e_rk0, e_rk1, e_rk2, e_inv0, e_inv1, e_inv2, e_inv3, e_inv4, e_inv5, e_inv6, e_o0, e_o1, e_cl, e_cle, e_cg, e_cge, e_ce, e_cr1, e_cr2, e_r, e_R, e_up, Int.cast_ofNat_Int, u_app, false_and, and_false, e_b0, e_b1, e_bn, e_bl, e_bu, Int.reduceLE, Int.reduceLT, Int.reduceEq, Int.reduceNeg, Int.reduceAdd, Int.reduceSub, Int.reduceMul, Nat.reduceLeDiff, Nat.reduceLT, Nat.reduceAdd, Nat.reduceEqDiff, true_and, and_true, true_or, or_true, false_or, or_false, forall_const, not_true_eq_false, not_false_eq_true, true_implies, false_implies, implies_true, and_self, zero_ne_one, one_ne_zero, eq_self, reduceIte, s_X11_needOf_0, b_X11_needOf_0, s_X11_needOf_4, b_X11_needOf_4, s_X11_needOf_13, b_X11_needOf_13, s_X11_needOf_15, b_X11_needOf_15, s_X11_needOf_26, b_X11_needOf_26, s_X11_needOf_37, b_X11_needOf_37, s_X11_needOf_48, b_X11_needOf_48, s_X11_needOf_53, b_X11_needOf_53, s_X11_needOf_64, b_X11_needOf_64, s_X11_needOf_66, b_X11_needOf_66, s_X11_needOf_79, b_X11_needOf_79, s_X11_needOf_88, b_X11_needOf_88, s_X11_needOf_91, b_X11_needOf_91, s_X11_needOf_100, b_X11_needOf_100, s_X11_needOf_107, b_X11_needOf_107, s_X11_needOf_117, b_X11_needOf_117, s_X11_needOf_132, b_X11_needOf_132, s_X11_needOf_139, b_X11_needOf_139, s_X11_needOf_149, b_X11_needOf_149, s_X11_needOf_161, b_X11_needOf_161, s_X11_needOf_173, b_X11_needOf_173, s_X11_needOf_174, b_X11_needOf_174, s_X11_needOf_182, b_X11_needOf_182, s_X11_needOf_188, b_X11_needOf_188, s_X11_needOf_194, b_X11_needOf_194, s_X11_needOf_200, b_X11_needOf_200, g_X11_27, g_X11_33, g_X11_13, g_X11_7, G_X11_needOf_138, sp_X11_allTiles_e, G_X11_needOf_113, sp_X11_isCell_e, G_X11_needOf_121, sp_X11_tileOf_e, ew, eh]
    refine ⟨by omega, fun c => hk all _ _ _ h4 (fun t => ⟨Or.inl, fun q => q.elim id (fun ⟨c9, q1, q2, _⟩ => by omega)⟩), fun c => ?_⟩
    refine need_b hR ew eh hd ht hr ⟨h1, by omega⟩ hy (2 * r + 2).toNat (y - r) all l8 (by omega) (by omega) (by omega) h4 (fun m l7 l8 hm hb9 => ?_)
    refine ih (x + 1) m l7 l8 (by omega) (by omega) (by omega) hm (fun m2 l6 l7 l8 hm2 hb2 => hk m2 l6 l7 l8 hm2 (fun t => ?_))
    rw [hb2 t, hb9 t]
    constructor
    · rintro ((q | q) | ⟨x9, q1, q2, q3⟩)
      · exact Or.inl q
      · exact Or.inr ⟨x, by omega, by omega, q⟩
      · exact Or.inr ⟨x9, by omega, q2, q3⟩
    · rintro (q | ⟨x9, q1, q2, q3⟩)
      · exact Or.inl (Or.inl q)
      · by_cases e : x9 = x
        · subst e
          exact Or.inl (Or.inr q3)
        · exact Or.inr ⟨x9, by omega, q2, q3⟩
set_option maxRecDepth 100000 in
theorem need_y {Rt : Option QV → QM → Prop} {S : Nat → QL → List QV → QM → Prop} (hR : q_Rule cX11_needOf 9 u_X11_needOf fl_X11 ld_X11 G_X11_needOf q_T 0 s_X11_needOf Rt S) {μ : QM} {w h : Int} (ew : μ 85 2 = w) (eh : μ 85 3 = h) (hd : m_dim w h) {B tiles r : Int} (ht : q_mk tiles) (hr : 1 ≤ r ∧ r ≤ 3) : ∀ (n : Nat) (y all : Int) (l6 l7 l8 : Option QV), 0 ≤ y → y ≤ h → h - y < n → q_mk all →
    (∀ (m : Int), q_mk m → (∀ t : Nat, q_bit m t = true ↔ q_bit all t = true ∨ ∃ y' : Int, y ≤ y' ∧ y' < h ∧ ∃ x' : Int, 0 ≤ x' ∧ x' < w ∧ (q_bit tiles (y' / 4 * 3 + x' / 4).toNat = true ∧ ∃ b' : Int, y' - r ≤ b' ∧ b' ≤ y' + r ∧ m_nr w h r x' b' t)) → Rt (some (.inl m)) μ) →
    S 79 [some (.inr (.inr 85)), some (.inl B), some (.inl tiles), some (.inl all), some (.inl r), some (.inl y), l6, l7, l8] [] μ := by
  intro n
  induction n with
  | zero => intro y all l6 l7 l8 h1 h2 h3; omega
  | succ n ih =>
    intro y all l6 l7 l8 h1 h2 h3 h4 hk
    refine hR 60 b_X11_needOf_79 79 _ _ _ o_X11_needOf_79 ?_
    simp only [v_opt_n, v_opt_s, v_nil, v_iconst, v_bipush, v_sipush, v_lconst0, v_lconst1, v_ldc, v_ldcw, v_ldc2, v_iload0, v_iload1, v_iload2, v_iload3, v_iload, v_lload0, v_lload1, v_lload2, v_lload3, v_lload, v_aload0, v_aload1, v_aload2, v_aload3, v_aload, v_istore0, v_istore1, v_istore2, v_istore3, v_istore, v_lstore0, v_lstore1, v_lstore2, v_lstore3, v_lstore, v_astore0, v_astore1, v_astore2, v_astore3, v_astore, v_iinc, v_iadd, v_isub, v_imul, v_iand, v_ior, v_ixor, v_ishl, v_ishr, v_iushr, v_ineg, v_idiv, v_irem, v_ladd, v_lsub, v_lmul, v_lcmp, v_i2l, v_l2i, v_i2c, v_dup, v_dup2, v_if_eq, v_if_ne, v_if_lt, v_if_ge, v_if_gt, v_if_le, v_ic_eq, v_ic_ne, v_ic_lt, v_ic_ge, v_ic_gt, v_ic_le, v_goto, v_tsw, v_lsw, v_ireturn, v_areturn, v_return, v_iaload, v_laload, v_baload, v_caload, v_aaload, v_iastore, v_lastore, v_bastore, v_castore, v_alen, v_invvi, v_invst, v_invsp, e_int, e_lng, e_ref, e_lg0, e_lg1, e_lg2, e_lg3, e_lg4, e_lg5, e_lg6, e_lg7, e_lg8, e_lg9, e_lg10, e_lg11, e_lg12, e_lg13, e_clrI, e_clrJ, e_clrP, e_clrN, e_s0, e_s1, e_s2, e_s3, e_s4, e_s5, e_s6, e_s7, e_s8, e_s9, e_s10, e_s11, e_s12, e_s13, e_t0, e_t1, e_t2, e_t3, e_t4, e_t5, e_t6, e_t7, e_t8, e_t9, e_t10, e_t11, e_t12, e_t13, e_fd, e_kk, e_k0, e_k1, e_k2, e_k3, e_k4, e_k5, e_k6, e_k7, e_k8, e_k9, e_sv0, e_sv1, e_sv2, e_sv3, e_svc, e_pf0, e_pf1, e_pf2, e_pf3, e_ar, e_aa, e_al, e_sw1, e_sw2, e_ct0, e_ct1, e_ct2, e_cat0, e_cat1, e_rk0, e_rk1, e_rk2, e_inv0, e_inv1, e_inv2, e_inv3, e_inv4, e_inv5, e_inv6, e_o0, e_o1, e_cl, e_cle, e_cg, e_cge, e_ce, e_cr1, e_cr2, e_r, e_R, e_up, Int.cast_ofNat_Int, u_app, false_and, and_false, e_b0, e_b1, e_bn, e_bl, e_bu, Int.reduceLE, Int.reduceLT, Int.reduceEq, Int.reduceNeg, Int.reduceAdd, Int.reduceSub, Int.reduceMul, Nat.reduceLeDiff, Nat.reduceLT, Nat.reduceAdd, Nat.reduceEqDiff, true_and, and_true, true_or, or_true, false_or, or_false, forall_const, not_true_eq_false, not_false_eq_true, true_implies, false_implies, implies_true, and_self, zero_ne_one, one_ne_zero, eq_self, reduceIte, s_X11_needOf_0, b_X11_needOf_0, s_X11_needOf_4, b_X11_needOf_4, s_X11_needOf_13, b_X11_needOf_13, s_X11_needOf_15, b_X11_needOf_15, s_X11_needOf_26, b_X11_needOf_26, s_X11_needOf_37, b_X11_needOf_37, s_X11_needOf_48, b_X11_needOf_48, s_X11_needOf_53, b_X11_needOf_53, s_X11_needOf_64, b_X11_needOf_64, s_X11_needOf_66, b_X11_needOf_66, s_X11_needOf_79, b_X11_needOf_79, s_X11_needOf_88, b_X11_needOf_88, s_X11_needOf_91, b_X11_needOf_91, s_X11_needOf_100, b_X11_needOf_100, s_X11_needOf_107, b_X11_needOf_107, s_X11_needOf_117, b_X11_needOf_117, s_X11_needOf_132, b_X11_needOf_132, s_X11_needOf_139, b_X11_needOf_139, s_X11_needOf_149, b_X11_needOf_149, s_X11_needOf_161, b_X11_needOf_161, s_X11_needOf_173, b_X11_needOf_173, s_X11_needOf_174, b_X11_needOf_174, s_X11_needOf_182, b_X11_needOf_182, s_X11_needOf_188, b_X11_needOf_188, s_X11_needOf_194, b_X11_needOf_194, s_X11_needOf_200, b_X11_needOf_200, g_X11_27, g_X11_33, g_X11_13, g_X11_7, G_X11_needOf_138, sp_X11_allTiles_e, G_X11_needOf_113, sp_X11_isCell_e, G_X11_needOf_121, sp_X11_tileOf_e, ew, eh]
    refine ⟨by omega, fun c => hk all h4 (fun t => ⟨Or.inl, fun q => q.elim id (fun ⟨c9, q1, q2, _⟩ => by omega)⟩), fun c => ?_⟩
    refine need_x hR ew eh hd ht hr ⟨h1, by omega⟩ (w + 1).toNat 0 all l7 l8 (by omega) (by omega) (by omega) h4 (fun m l6 l7 l8 hm hb9 => ?_)
    refine ih (y + 1) m l6 l7 l8 (by omega) (by omega) (by omega) hm (fun m2 hm2 hb2 => hk m2 hm2 (fun t => ?_))
    rw [hb2 t, hb9 t]
    constructor
    · rintro ((q | q) | ⟨x9, q1, q2, q3⟩)
      · exact Or.inl q
      · exact Or.inr ⟨y, by omega, by omega, q⟩
      · exact Or.inr ⟨x9, by omega, q2, q3⟩
    · rintro (q | ⟨x9, q1, q2, q3⟩)
      · exact Or.inl (Or.inl q)
      · by_cases e : x9 = y
        · subst e
          exact Or.inl (Or.inr q3)
        · exact Or.inr ⟨x9, by omega, q2, q3⟩
theorem m_near {w h r tiles : Int} (hd : m_dim w h) (hr : 1 ≤ r ∧ r ≤ 3) (ht : m_sub w h tiles) {m : Int} (hm : q_mk m) (hb : ∀ t : Nat, q_bit m t = true ↔ q_bit 0 t = true ∨ ∃ y' : Int, 0 ≤ y' ∧ y' < h ∧ ∃ x' : Int, 0 ≤ x' ∧ x' < w ∧ (q_bit tiles (y' / 4 * 3 + x' / 4).toNat = true ∧ ∃ b' : Int, y' - r ≤ b' ∧ b' ≤ y' + r ∧ m_nr w h r x' b' t)) : m = q_arn w h tiles := by
  refine q_mk_ext hm (q_mk_arn w h tiles) (fun t _ => ?_)
  rw [Bool.eq_iff_iff, hb t, q_arn_bit ht.1, bt_0]
  constructor
  · rintro (q | ⟨y, y1, y2, x, x1, x2, hbt, b, b1, b2, c, c1, c2, c3, c4⟩)
    · cases q
    · have hu := ht.1
      refine ⟨by omega, (y / 4 * 3 + x / 4).toNat, by omega, hbt, ?_, ?_⟩ <;> omega
  · rintro ⟨htl, u, hu, hbu, h1, h2⟩
    have hut := ht.2 u hbu
    refine Or.inr ?_
    obtain ⟨y, b, e1, e2, e3, e4, e5, e6⟩ : ∃ y b : Int, (0 ≤ y ∧ y < h) ∧ y / 4 = (u : Int) / 3 ∧ (0 ≤ b ∧ b < h) ∧ b / 4 = (t : Int) / 3 ∧ y - r ≤ b ∧ b ≤ y + r := by
      have : (t : Int) / 3 = (u : Int) / 3 ∨ (t : Int) / 3 = (u : Int) / 3 + 1 ∨ (t : Int) / 3 + 1 = (u : Int) / 3 := by omega
      rcases this with e | e | e
      · exact ⟨(u : Int) / 3 * 4, (u : Int) / 3 * 4, by omega, by omega, by omega, by omega, by omega, by omega⟩
      · exact ⟨(u : Int) / 3 * 4 + 3, (u : Int) / 3 * 4 + 4, by omega, by omega, by omega, by omega, by omega, by omega⟩
      · exact ⟨(u : Int) / 3 * 4, (u : Int) / 3 * 4 - 1, by omega, by omega, by omega, by omega, by omega, by omega⟩
    obtain ⟨x, c, f1, f2, f3, f4, f5, f6⟩ : ∃ x c : Int, (0 ≤ x ∧ x < w) ∧ x / 4 = (u : Int) % 3 ∧ (0 ≤ c ∧ c < w) ∧ c / 4 = (t : Int) % 3 ∧ x - r ≤ c ∧ c ≤ x + r := by
      have : (t : Int) % 3 = (u : Int) % 3 ∨ (t : Int) % 3 = (u : Int) % 3 + 1 ∨ (t : Int) % 3 + 1 = (u : Int) % 3 := by omega
      rcases this with e | e | e
      · exact ⟨(u : Int) % 3 * 4, (u : Int) % 3 * 4, by omega, by omega, by omega, by omega, by omega, by omega⟩
      · exact ⟨(u : Int) % 3 * 4 + 3, (u : Int) % 3 * 4 + 4, by omega, by omega, by omega, by omega, by omega, by omega⟩
      · exact ⟨(u : Int) % 3 * 4, (u : Int) % 3 * 4 - 1, by omega, by omega, by omega, by omega, by omega, by omega⟩
    have eu : (y / 4 * 3 + x / 4).toNat = u := by omega
    exact ⟨y, e1.1, e1.2, x, f1.1, f1.2, by rw [eu]; exact hbu, b, e5, e6, c, f5, f6, ⟨f3.1, f3.2, e3.1, e3.2⟩, by omega⟩
theorem q_arn_0 (w h : Int) : q_arn w h 0 = 0 := q_mk_ext (q_mk_arn w h 0) q_mk_0 (fun t _ => by
  have := q_arn_bit (w := w) (h := h) q_mk_0 t
  rw [bt_0]
  rw [Bool.eq_false_iff]
  intro q
  obtain ⟨-, u, -, hb, -⟩ := this.mp q
  rw [bt_0] at hb
  cases hb)
theorem q_need_0 (w h kind : Int) : q_need w h kind 0 = 0 := by
  unfold q_need
  split
  · rfl
  · split
    · exact q_arn_0 w h
    · rfl
set_option maxRecDepth 100000 in
set_option maxHeartbeats 4000000 in
theorem B_X11_needOf : q_Body cX11_needOf 9 u_X11_needOf fl_X11 ld_X11 G_X11_needOf q_T 0 s_X11_needOf sp_X11_needOf := by
  intro S Rt hR ra μ h
  obtain ⟨this, board, tiles, rfl, h⟩ := sp_X11_needOf_i h
  refine ⟨by simp [q_sl, q_ct], ?_⟩
  show S 0 [some (.inr (.inr this)), some (.inl board), some (.inl tiles), none, none, none, none, none, none] [] μ
  obtain ⟨rfl, h1, h2, h3, h4, h5, hk⟩ := h
  have ht := h5.1
  have hkk : ∀ v : Int, v = (if μ 89 board = 0 then 0 else q_need (μ 85 2) (μ 85 3) (μ 89 board) tiles) → Rt (some (.inl v)) μ := fun v e => by rw [e]; exact hk
  refine hR 120 [] 0 _ _ _ rfl ?_
  simp only [v_opt_n, v_opt_s, v_nil, v_iconst, v_bipush, v_sipush, v_lconst0, v_lconst1, v_ldc, v_ldcw, v_ldc2, v_iload0, v_iload1, v_iload2, v_iload3, v_iload, v_lload0, v_lload1, v_lload2, v_lload3, v_lload, v_aload0, v_aload1, v_aload2, v_aload3, v_aload, v_istore0, v_istore1, v_istore2, v_istore3, v_istore, v_lstore0, v_lstore1, v_lstore2, v_lstore3, v_lstore, v_astore0, v_astore1, v_astore2, v_astore3, v_astore, v_iinc, v_iadd, v_isub, v_imul, v_iand, v_ior, v_ixor, v_ishl, v_ishr, v_iushr, v_ineg, v_idiv, v_irem, v_ladd, v_lsub, v_lmul, v_lcmp, v_i2l, v_l2i, v_i2c, v_dup, v_dup2, v_if_eq, v_if_ne, v_if_lt, v_if_ge, v_if_gt, v_if_le, v_ic_eq, v_ic_ne, v_ic_lt, v_ic_ge, v_ic_gt, v_ic_le, v_goto, v_tsw, v_lsw, v_ireturn, v_areturn, v_return, v_iaload, v_laload, v_baload, v_caload, v_aaload, v_iastore, v_lastore, v_bastore, v_castore, v_alen, v_invvi, v_invst, v_invsp, e_int, e_lng, e_ref, e_lg0, e_lg1, e_lg2, e_lg3, e_lg4, e_lg5, e_lg6, e_lg7, e_lg8, e_lg9, e_lg10, e_lg11, e_lg12, e_lg13, e_clrI, e_clrJ, e_clrP, e_clrN, e_s0, e_s1, e_s2, e_s3, e_s4, e_s5, e_s6, e_s7, e_s8, e_s9, e_s10, e_s11, e_s12, e_s13, e_t0, e_t1, e_t2, e_t3, e_t4, e_t5, e_t6, e_t7, e_t8, e_t9, e_t10, e_t11, e_t12, e_t13, e_fd, e_kk, e_k0, e_k1, e_k2, e_k3, e_k4, e_k5, e_k6, e_k7, e_k8, e_k9, e_sv0, e_sv1, e_sv2, e_sv3, e_svc, e_pf0, e_pf1, e_pf2, e_pf3, e_ar, e_aa, e_al, e_sw1, e_sw2, e_ct0, e_ct1, e_ct2, e_cat0, e_cat1, e_rk0, e_rk1, e_rk2, e_inv0, e_inv1, e_inv2, e_inv3, e_inv4, e_inv5, e_inv6, e_o0, e_o1, e_cl, e_cle, e_cg, e_cge, e_ce, e_cr1, e_cr2, e_r, e_R, e_up, Int.cast_ofNat_Int, u_app, false_and, and_false, e_b0, e_b1, e_bn, e_bl, e_bu, Int.reduceLE, Int.reduceLT, Int.reduceEq, Int.reduceNeg, Int.reduceAdd, Int.reduceSub, Int.reduceMul, Nat.reduceLeDiff, Nat.reduceLT, Nat.reduceAdd, Nat.reduceEqDiff, true_and, and_true, true_or, or_true, false_or, or_false, forall_const, not_true_eq_false, not_false_eq_true, true_implies, false_implies, implies_true, and_self, zero_ne_one, one_ne_zero, eq_self, reduceIte, s_X11_needOf_0, b_X11_needOf_0, s_X11_needOf_4, b_X11_needOf_4, s_X11_needOf_13, b_X11_needOf_13, s_X11_needOf_15, b_X11_needOf_15, s_X11_needOf_26, b_X11_needOf_26, s_X11_needOf_37, b_X11_needOf_37, s_X11_needOf_48, b_X11_needOf_48, s_X11_needOf_53, b_X11_needOf_53, s_X11_needOf_64, b_X11_needOf_64, s_X11_needOf_66, b_X11_needOf_66, s_X11_needOf_79, b_X11_needOf_79, s_X11_needOf_88, b_X11_needOf_88, s_X11_needOf_91, b_X11_needOf_91, s_X11_needOf_100, b_X11_needOf_100, s_X11_needOf_107, b_X11_needOf_107, s_X11_needOf_117, b_X11_needOf_117, s_X11_needOf_132, b_X11_needOf_132, s_X11_needOf_139, b_X11_needOf_139, s_X11_needOf_149, b_X11_needOf_149, s_X11_needOf_161, b_X11_needOf_161, s_X11_needOf_173, b_X11_needOf_173, s_X11_needOf_174, b_X11_needOf_174, s_X11_needOf_182, b_X11_needOf_182, s_X11_needOf_188, b_X11_needOf_188, s_X11_needOf_194, b_X11_needOf_194, s_X11_needOf_200, b_X11_needOf_200, g_X11_27, g_X11_33, g_X11_13, g_X11_7, G_X11_needOf_138, sp_X11_allTiles_e, G_X11_needOf_113, sp_X11_isCell_e, G_X11_needOf_121, sp_X11_tileOf_e, T_89, T_91]
  have htr := ht.1
  (repeat' (first | (refine And.intro ?_ ?_) | (intro _))) <;> first
    | omega
    | exact hkk _ (by subst_vars; rw [q_need_0]; split <;> rfl)
    | exact hkk _ (by rw [if_pos (by omega)])
    | exact hkk _ (by unfold q_need; rw [if_neg (by omega), if_pos (by omega), if_neg (by omega)])
    | exact hkk _ (by unfold q_need; rw [if_neg (by omega), if_neg (by omega), if_neg (by omega)])
    | exact need_y hR rfl rfl h4 ht (h3 (by omega)) 13 0 0 _ _ _ (by omega) (by omega) (by omega) q_mk_0 (fun m hm hb => hkk _ (by unfold q_need; rw [if_neg (by omega), if_neg (by omega), if_pos (by omega)]; exact m_near h4 (h3 (by omega)) h5 hm hb))
set_option maxRecDepth 100000 in
theorem C_X11_needOf {l : Launch} {ad : Int → Nat} {D : va_G} {cy : Nat → ClassId} {Z : State → Prop} (hZ : q_Zg ad Z) : q_Ct l q_T q_N ad D cy Z yX11_needOf cX11_needOf 9 (some .int) rm_X11_needOf sp_X11_needOf := by
  obtain ⟨hf, hg, hld⟩ := q_chkS k_X11_needOf
  refine q_met (rk := 0) q_wokT (by decide) rfl hf hg hld rfl (q_skS L_X11_needOf o_X11_needOf) ?_ ?_ ?_ ?_ B_X11_needOf
  · intro i hi; exact absurd hi List.not_mem_nil
  · intro i hi
    have hi : i = 138 ∨ i = 113 := by simpa [u_X11_needOf] using hi
    rcases hi with rfl | rfl
    · exact q_crV hZ.1 (C_X11_allTiles hZ) rv_X11_allTiles cm_X11_allTiles (by decide +kernel) (by decide +kernel) (by decide +kernel) (by decide +kernel) (by decide +kernel) ⟨rfl, rfl⟩ (by decide)
    · exact q_crV hZ.1 (C_X11_isCell hZ) rv_X11_isCell cm_X11_isCell (by decide +kernel) (by decide +kernel) (by decide +kernel) (by decide +kernel) (by decide +kernel) ⟨rfl, rfl⟩ (by decide)
  · intro i hi
    have hi : i = 121 := by simpa [u_X11_needOf] using hi
    rcases hi with rfl
    · exact q_crS hZ.1 (C_X11_tileOf hZ) cm_X11_tileOf (by decide +kernel) (by decide +kernel) (by decide +kernel) (by decide +kernel) ⟨rfl, rfl⟩ (by decide)
  · intro i hi; exact absurd hi List.not_mem_nil
theorem rv_X11_needOf : q_rcv q_T yX11_needOf.cls sp_X11_needOf := by
  intro ra μ K h
  obtain ⟨this, board, tiles, rfl, h⟩ := sp_X11_needOf_i h
  obtain rfl := h.1
  exact ⟨[.inl tiles, .inl board], 85, 11, _, _, rfl, T_85, rfl, rfl⟩
theorem cm_X11_needOf : Cond.code yX11_needOf cX11_needOf 9 (some .int) ∈ q_tb := by decide +kernel

