/-! the reference: needs over all steps, what a tile comes from -/
def q_blk (μ : QM) (a n : Int) (f : Int → Int) : QM := fun b j => if b = a ∧ 0 ≤ j ∧ j < n then f j else μ b j
theorem u_blk (μ : QM) (a n : Int) (f : Int → Int) (b j : Int) : q_blk μ a n f b j = if b = a ∧ 0 ≤ j ∧ j < n then f j else μ b j := id rfl
theorem q_blk_up {μ : QM} {a n i v : Int} {f : Int → Int} (h0 : 0 ≤ i) (h1 : i < n) : q_up (q_blk μ a n f) a i v = q_blk μ a n (fun j => if j = i then v else f j) := by
  funext b j
  unfold q_up q_blk
  by_cases c1 : b = a ∧ j = i
  · rw [if_pos c1, if_pos (by omega)]
    show v = if j = i then v else f j
    rw [if_pos c1.2]
  · rw [if_neg c1]
    by_cases c2 : b = a ∧ 0 ≤ j ∧ j < n
    · rw [if_pos c2, if_pos c2]
      show f j = if j = i then v else f j
      rw [if_neg (by omega)]
    · rw [if_neg c2, if_neg c2]
theorem q_blk_of {μ : QM} {a n : Int} : q_blk μ a n (μ a) = μ := by
  funext b j
  unfold q_blk
  split
  · rename_i h
    rw [h.1]
  · rfl
theorem q_blk_blk {μ : QM} {a n : Int} {f g : Int → Int} : q_blk (q_blk μ a n f) a n g = q_blk μ a n g := by
  funext b j
  unfold q_blk
  by_cases c : b = a ∧ 0 ≤ j ∧ j < n
  · rw [if_pos c, if_pos c]
  · rw [if_neg c, if_neg c, if_neg c]
theorem q_fill_blk {μ : QM} {a n v : Int} : q_fill μ a 0 n v = q_blk μ a n (fun _ => v) := rfl
/-- the recipes of n boards are in order -/
def m_rok (kd rn mn : Int → Int) (of : Int → Int → Int) (n : Int) : Prop := ∀ b : Int, 0 ≤ b → b < n → (0 ≤ kd b ∧ kd b ≤ 12) ∧ (0 ≤ mn b ∧ mn b ≤ 3) ∧ (∀ k : Int, 0 ≤ k → k < mn b → 0 ≤ of b k ∧ of b k < b) ∧ (kd b = 10 → 1 ≤ rn b ∧ rn b ≤ 3) ∧ (kd b = 0 → mn b = 0 ∧ 0 ≤ rn b ∧ rn b ≤ 3) ∧ q_r (rn b)
def m_ndx (its : Int) (of : Int → Int) : Nat → Int → (Int → Int) → Int → Int
  | 0, _, n => n
  | d + 1, k, n => m_ndx its of d (k + 1) (fun j => if j = of k then q_or (n j) its else n j)
def m_nds (w h : Int) (kd mn : Int → Int) (of : Int → Int → Int) (b : Int) (n : Int → Int) : Int → Int := m_ndx (q_need w h (kd b) (n b)) (of b) (mn b).toNat 0 n
def m_ndr (w h : Int) (kd mn : Int → Int) (of : Int → Int → Int) : Nat → (Int → Int) → Int → Int
  | 0, n => n
  | b + 1, n => m_ndr w h kd mn of b (m_nds w h kd mn of (b : Int) n)
/-- what a tile of a board needs of each board, over all steps -/
def m_nd (w h : Int) (kd mn : Int → Int) (of : Int → Int → Int) (board tile : Int) : Int → Int := m_ndr w h kd mn of (board + 1).toNat (fun j => if j = board then q_shl 1 tile else 0)
theorem m_sub_or {w h a b : Int} (ha : m_sub w h a) (hb : m_sub w h b) : m_sub w h (q_or a b) := ⟨q_mk_or ha.1 hb.1, fun t q => by
  rw [bt_or] at q
  rcases Bool.or_eq_true_iff.mp q with q | q
  · exact ha.2 t q
  · exact hb.2 t q⟩
theorem m_sub_0 (w h : Int) : m_sub w h 0 := ⟨q_mk_0, fun t q => by rw [bt_0] at q; cases q⟩
theorem m_sub_tm (w h : Int) : m_sub w h (q_tm w h) := ⟨q_mk_tm w h, fun t q => by rw [q_tm_bit] at q; exact of_decide_eq_true q⟩
theorem m_sub_one {w h t : Int} (ht : m_tl w h t) : m_sub w h (q_shl 1 t) := ⟨q_mk_one (by omega) (by omega), fun u q => by
  rw [bt_one (by omega) (by omega)] at q
  have := of_decide_eq_true q
  rw [this]
  exact ht⟩
theorem m_sub_need {w h kind s : Int} (hs : m_sub w h s) : m_sub w h (q_need w h kind s) := by
  unfold q_need
  split
  · split
    · exact m_sub_0 w h
    · exact m_sub_tm w h
  · split
    · exact ⟨q_mk_arn w h s, fun t q => ((q_arn_bit hs.1 t).mp q).1⟩
    · exact hs
theorem m_ndx_sub {w h its : Int} {of : Int → Int} (hi : m_sub w h its) : ∀ (d : Nat) (k : Int) (n : Int → Int), (∀ j, m_sub w h (n j)) → ∀ j, m_sub w h (m_ndx its of d k n j)
  | 0, _, _, hn => hn
  | d + 1, k, n, hn => m_ndx_sub hi d (k + 1) _ (fun j => by
    show m_sub w h (if j = of k then q_or (n j) its else n j)
    split
    · exact m_sub_or (hn j) hi
    · exact hn j)
theorem m_nds_sub {w h : Int} {kd mn : Int → Int} {of : Int → Int → Int} {b : Int} {n : Int → Int} (hn : ∀ j, m_sub w h (n j)) : ∀ j, m_sub w h (m_nds w h kd mn of b n j) := m_ndx_sub (m_sub_need (hn b)) _ _ _ hn
theorem m_ndr_sub {w h : Int} {kd mn : Int → Int} {of : Int → Int → Int} : ∀ (b : Nat) (n : Int → Int), (∀ j, m_sub w h (n j)) → ∀ j, m_sub w h (m_ndr w h kd mn of b n j)
  | 0, _, hn => hn
  | b + 1, n, hn => m_ndr_sub b _ (m_nds_sub hn)
theorem m_nd_sub {w h : Int} {kd mn : Int → Int} {of : Int → Int → Int} {board tile : Int} (ht : m_tl w h tile) : ∀ j, m_sub w h (m_nd w h kd mn of board tile j) := m_ndr_sub _ _ (fun j => by
  show m_sub w h (if j = board then q_shl 1 tile else 0)
  split
  · exact m_sub_one ht
  · exact m_sub_0 w h)
def sp_X11_findNeeds : QP := fun ra μ K => match ra with
  | [.inl tile, .inl board, .inr (.inr this)] => this = 85 ∧ (0 ≤ board ∧ board < 10) ∧ m_dim (μ 85 2) (μ 85 3) ∧ m_tl (μ 85 2) (μ 85 3) tile ∧ m_rok (μ 89) (μ 91) (μ 93) (fun b k => μ 92 (3 * b + k)) (board + 1) ∧ K none (q_blk μ 95 10 (m_nd (μ 85 2) (μ 85 3) (μ 89) (μ 93) (fun b k => μ 92 (3 * b + k)) board tile))
  | _ => False
theorem sp_X11_findNeeds_e (this board tile : Int) (μ : QM) (K : Option QV → QM → Prop) : sp_X11_findNeeds [.inl tile, .inl board, .inr (.inr this)] μ K = (this = 85 ∧ (0 ≤ board ∧ board < 10) ∧ m_dim (μ 85 2) (μ 85 3) ∧ m_tl (μ 85 2) (μ 85 3) tile ∧ m_rok (μ 89) (μ 91) (μ 93) (fun b k => μ 92 (3 * b + k)) (board + 1) ∧ K none (q_blk μ 95 10 (m_nd (μ 85 2) (μ 85 3) (μ 89) (μ 93) (fun b k => μ 92 (3 * b + k)) board tile))) := propext Iff.rfl
theorem sp_X11_findNeeds_i {ra : List QV} {μ : QM} {K : Option QV → QM → Prop} (h : sp_X11_findNeeds ra μ K) : ∃ this board tile : Int, ra = [.inl tile, .inl board, .inr (.inr this)] ∧ (this = 85 ∧ (0 ≤ board ∧ board < 10) ∧ m_dim (μ 85 2) (μ 85 3) ∧ m_tl (μ 85 2) (μ 85 3) tile ∧ m_rok (μ 89) (μ 91) (μ 93) (fun b k => μ 92 (3 * b + k)) (board + 1) ∧ K none (q_blk μ 95 10 (m_nd (μ 85 2) (μ 85 3) (μ 89) (μ 93) (fun b k => μ 92 (3 * b + k)) board tile))) := by
  unfold sp_X11_findNeeds at h
  split at h
  · exact ⟨_, _, _, rfl, h⟩
  · exact h.elim
def rm_X11_findNeeds : Room := { frames := 4, cells := 0, slots := 0, locals := 96 }
def G_X11_findNeeds : Nat → Nat × QP := fun i => match i with
  | 142 => (3, sp_X11_needOf)
  | _ => (0, fun _ _ _ => False)
theorem G_X11_findNeeds_142 : G_X11_findNeeds 142 = (3, sp_X11_needOf) := id rfl
set_option maxRecDepth 100000 in
theorem fn_0 {Rt : Option QV → QM → Prop} {S : Nat → QL → List QV → QM → Prop} (hR : q_Rule cX11_findNeeds 6 u_X11_findNeeds fl_X11 ld_X11 G_X11_findNeeds q_T 4 s_X11_findNeeds Rt S) {B t : Int} (hB : 0 ≤ B ∧ B < 10) (ht : 0 ≤ t ∧ t ≤ 8) : ∀ (n : Nat) (i : Int) (μ : QM), 0 ≤ i → i ≤ 10 → 10 - i < n → (∀ l3, l3 = some (.inl B) → S 32 [some (.inr (.inr 85)), some (.inl B), some (.inl t), l3, none, none] [] (q_up (q_fill μ 95 i 10 0) 95 B (q_shl 1 t))) → S 2 [some (.inr (.inr 85)), some (.inl B), some (.inl t), some (.inl i), none, none] [] μ := by
  intro n
  induction n with
  | zero => intro i μ h1 h2 h3; omega
  | succ n ih =>
    intro i μ h1 h2 h3 h4
    refine hR 60 b_X11_findNeeds_2 2 _ _ _ o_X11_findNeeds_2 ?_
    simp only [v_opt_n, v_opt_s, v_nil, v_iconst, v_bipush, v_sipush, v_lconst0, v_lconst1, v_ldc, v_ldcw, v_ldc2, v_iload0, v_iload1, v_iload2, v_iload3, v_iload, v_lload0, v_lload1, v_lload2, v_lload3, v_lload, v_aload0, v_aload1, v_aload2, v_aload3, v_aload, v_istore0, v_istore1, v_istore2, v_istore3, v_istore, v_lstore0, v_lstore1, v_lstore2, v_lstore3, v_lstore, v_astore0, v_astore1, v_astore2, v_astore3, v_astore, v_iinc, v_iadd, v_isub, v_imul, v_iand, v_ior, v_ixor, v_ishl, v_ishr, v_iushr, v_ineg, v_idiv, v_irem, v_ladd, v_lsub, v_lmul, v_lcmp, v_i2l, v_l2i, v_i2c, v_dup, v_dup2, v_if_eq, v_if_ne, v_if_lt, v_if_ge, v_if_gt, v_if_le, v_ic_eq, v_ic_ne, v_ic_lt, v_ic_ge, v_ic_gt, v_ic_le, v_goto, v_tsw, v_lsw, v_ireturn, v_areturn, v_return, v_iaload, v_laload, v_baload, v_caload, v_aaload, v_iastore, v_lastore, v_bastore, v_castore, v_alen, v_invvi, v_invst, v_invsp, e_int, e_lng, e_ref, e_lg0, e_lg1, e_lg2, e_lg3, e_lg4, e_lg5, e_lg6, e_lg7, e_lg8, e_lg9, e_lg10, e_lg11, e_lg12, e_lg13, e_clrI, e_clrJ, e_clrP, e_clrN, e_s0, e_s1, e_s2, e_s3, e_s4, e_s5, e_s6, e_s7, e_s8, e_s9, e_s10, e_s11, e_s12, e_s13, e_t0, e_t1, e_t2, e_t3, e_t4, e_t5, e_t6, e_t7, e_t8, e_t9, e_t10, e_t11, e_t12, e_t13, e_fd, e_kk, e_k0, e_k1, e_k2, e_k3, e_k4, e_k5, e_k6, e_k7, e_k8, e_k9, e_sv0, e_sv1, e_sv2, e_sv3, e_svc, e_pf0, e_pf1, e_pf2, e_pf3, e_ar, e_aa, e_al, e_sw1, e_sw2, e_ct0, e_ct1, e_ct2, e_cat0, e_cat1, e_rk0, e_rk1, e_rk2, e_inv0, e_inv1, e_inv2, e_inv3, e_inv4, e_inv5, e_inv6, e_o0, e_o1, e_cl, e_cle, e_cg, e_cge, e_ce, e_cr1, e_cr2, e_r, e_R, e_up, Int.cast_ofNat_Int, u_app, false_and, and_false, e_b0, e_b1, e_bn, e_bl, e_bu, Int.reduceLE, Int.reduceLT, Int.reduceEq, Int.reduceNeg, Int.reduceAdd, Int.reduceSub, Int.reduceMul, Nat.reduceLeDiff, Nat.reduceLT, Nat.reduceAdd, Nat.reduceEqDiff, true_and, and_true, true_or, or_true, false_or, or_false, forall_const, not_true_eq_false, not_false_eq_true, true_implies, false_implies, implies_true, and_self, zero_ne_one, one_ne_zero, eq_self, reduceIte, s_X11_findNeeds_0, b_X11_findNeeds_0, s_X11_findNeeds_2, b_X11_findNeeds_2, s_X11_findNeeds_8, b_X11_findNeeds_8, s_X11_findNeeds_21, b_X11_findNeeds_21, s_X11_findNeeds_32, b_X11_findNeeds_32, s_X11_findNeeds_36, b_X11_findNeeds_36, s_X11_findNeeds_52, b_X11_findNeeds_52, s_X11_findNeeds_63, b_X11_findNeeds_63, s_X11_findNeeds_90, b_X11_findNeeds_90, s_X11_findNeeds_96, b_X11_findNeeds_96, g_X11_45, g_X11_39, g_X11_36, G_X11_findNeeds_142, sp_X11_needOf_e, T_95]
    refine ⟨by omega, fun c => ?_, fun c => ?_⟩
    · rw [q_fill_e (by omega)] at h4
      exact ⟨by omega, by omega, h4 _ rfl⟩
    · refine ⟨by omega, by omega, ih (i + 1) _ (by omega) (by omega) (by omega) ?_⟩
      rw [q_fill_s (by omega)]
      exact h4
set_option maxRecDepth 100000 in
theorem fn_k {Rt : Option QV → QM → Prop} {S : Nat → QL → List QV → QM → Prop} (hR : q_Rule cX11_findNeeds 6 u_X11_findNeeds fl_X11 ld_X11 G_X11_findNeeds q_T 4 s_X11_findNeeds Rt S) {μ : QM} {B t b its : Int} (hb : 0 ≤ b ∧ b < 10) (hm : 0 ≤ μ 93 b ∧ μ 93 b ≤ 3) (ho : ∀ k : Int, 0 ≤ k → k < μ 93 b → 0 ≤ μ 92 (3 * b + k) ∧ μ 92 (3 * b + k) < b) : ∀ (d : Nat) (k : Int) (n : Int → Int), 0 ≤ k → k + d = μ 93 b → (∀ l4 l5 : Option QV, S 32 [some (.inr (.inr 85)), some (.inl B), some (.inl t), some (.inl (b + -1)), l4, l5] [] (q_blk μ 95 10 (m_ndx its (fun k => μ 92 (3 * b + k)) d k n))) → S 52 [some (.inr (.inr 85)), some (.inl B), some (.inl t), some (.inl b), some (.inl its), some (.inl k)] [] (q_blk μ 95 10 n) := by
  intro d
  induction d with
  | zero =>
    intro k n h1 h2 hk
    refine hR 60 b_X11_findNeeds_52 52 _ _ _ o_X11_findNeeds_52 ?_
    simp only [v_opt_n, v_opt_s, v_nil, v_iconst, v_bipush, v_sipush, v_lconst0, v_lconst1, v_ldc, v_ldcw, v_ldc2, v_iload0, v_iload1, v_iload2, v_iload3, v_iload, v_lload0, v_lload1, v_lload2, v_lload3, v_lload, v_aload0, v_aload1, v_aload2, v_aload3, v_aload, v_istore0, v_istore1, v_istore2, v_istore3, v_istore, v_lstore0, v_lstore1, v_lstore2, v_lstore3, v_lstore, v_astore0, v_astore1, v_astore2, v_astore3, v_astore, v_iinc, v_iadd, v_isub, v_imul, v_iand, v_ior, v_ixor, v_ishl, v_ishr, v_iushr, v_ineg, v_idiv, v_irem, v_ladd, v_lsub, v_lmul, v_lcmp, v_i2l, v_l2i, v_i2c, v_dup, v_dup2, v_if_eq, v_if_ne, v_if_lt, v_if_ge, v_if_gt, v_if_le, v_ic_eq, v_ic_ne, v_ic_lt, v_ic_ge, v_ic_gt, v_ic_le, v_goto, v_tsw, v_lsw, v_ireturn, v_areturn, v_return, v_iaload, v_laload, v_baload, v_caload, v_aaload, v_iastore, v_lastore, v_bastore, v_castore, v_alen, v_invvi, v_invst, v_invsp, e_int, e_lng, e_ref, e_lg0, e_lg1, e_lg2, e_lg3, e_lg4, e_lg5, e_lg6, e_lg7, e_lg8, e_lg9, e_lg10, e_lg11, e_lg12, e_lg13, e_clrI, e_clrJ, e_clrP, e_clrN, e_s0, e_s1, e_s2, e_s3, e_s4, e_s5, e_s6, e_s7, e_s8, e_s9, e_s10, e_s11, e_s12, e_s13, e_t0, e_t1, e_t2, e_t3, e_t4, e_t5, e_t6, e_t7, e_t8, e_t9, e_t10, e_t11, e_t12, e_t13, e_fd, e_kk, e_k0, e_k1, e_k2, e_k3, e_k4, e_k5, e_k6, e_k7, e_k8, e_k9, e_sv0, e_sv1, e_sv2, e_sv3, e_svc, e_pf0, e_pf1, e_pf2, e_pf3, e_ar, e_aa, e_al, e_sw1, e_sw2, e_ct0, e_ct1, e_ct2, e_cat0, e_cat1, e_rk0, e_rk1, e_rk2, e_inv0, e_inv1, e_inv2, e_inv3, e_inv4, e_inv5, e_inv6, e_o0, e_o1, e_cl, e_cle, e_cg, e_cge, e_ce, e_cr1, e_cr2, e_r, e_R, e_up, Int.cast_ofNat_Int, u_app, false_and, and_false, e_b0, e_b1, e_bn, e_bl, e_bu, Int.reduceLE, Int.reduceLT, Int.reduceEq, Int.reduceNeg, Int.reduceAdd, Int.reduceSub, Int.reduceMul, Nat.reduceLeDiff, Nat.reduceLT, Nat.reduceAdd, Nat.reduceEqDiff, true_and, and_true, true_or, or_true, false_or, or_false, forall_const, not_true_eq_false, not_false_eq_true, true_implies, false_implies, implies_true, and_self, zero_ne_one, one_ne_zero, eq_self, reduceIte, s_X11_findNeeds_0, b_X11_findNeeds_0, s_X11_findNeeds_2, b_X11_findNeeds_2, s_X11_findNeeds_8, b_X11_findNeeds_8, s_X11_findNeeds_21, b_X11_findNeeds_21, s_X11_findNeeds_32, b_X11_findNeeds_32, s_X11_findNeeds_36, b_X11_findNeeds_36, s_X11_findNeeds_52, b_X11_findNeeds_52, s_X11_findNeeds_63, b_X11_findNeeds_63, s_X11_findNeeds_90, b_X11_findNeeds_90, s_X11_findNeeds_96, b_X11_findNeeds_96, g_X11_45, g_X11_39, g_X11_36, G_X11_findNeeds_142, sp_X11_needOf_e, T_95, T_93, T_92, u_blk]
    have := hb
    exact ⟨by omega, by omega, by omega, fun _ => hk _ _, fun c => by omega⟩
  | succ d ih =>
    intro k n h1 h2 hk
    refine hR 60 b_X11_findNeeds_52 52 _ _ _ o_X11_findNeeds_52 ?_
    simp only [v_opt_n, v_opt_s, v_nil, v_iconst, v_bipush, v_sipush, v_lconst0, v_lconst1, v_ldc, v_ldcw, v_ldc2, v_iload0, v_iload1, v_iload2, v_iload3, v_iload, v_lload0, v_lload1, v_lload2, v_lload3, v_lload, v_aload0, v_aload1, v_aload2, v_aload3, v_aload, v_istore0, v_istore1, v_istore2, v_istore3, v_istore, v_lstore0, v_lstore1, v_lstore2, v_lstore3, v_lstore, v_astore0, v_astore1, v_astore2, v_astore3, v_astore, v_iinc, v_iadd, v_isub, v_imul, v_iand, v_ior, v_ixor, v_ishl, v_ishr, v_iushr, v_ineg, v_idiv, v_irem, v_ladd, v_lsub, v_lmul, v_lcmp, v_i2l, v_l2i, v_i2c, v_dup, v_dup2, v_if_eq, v_if_ne, v_if_lt, v_if_ge, v_if_gt, v_if_le, v_ic_eq, v_ic_ne, v_ic_lt, v_ic_ge, v_ic_gt, v_ic_le, v_goto, v_tsw, v_lsw, v_ireturn, v_areturn, v_return, v_iaload, v_laload, v_baload, v_caload, v_aaload, v_iastore, v_lastore, v_bastore, v_castore, v_alen, v_invvi, v_invst, v_invsp, e_int, e_lng, e_ref, e_lg0, e_lg1, e_lg2, e_lg3, e_lg4, e_lg5, e_lg6, e_lg7, e_lg8, e_lg9, e_lg10, e_lg11, e_lg12, e_lg13, e_clrI, e_clrJ, e_clrP, e_clrN, e_s0, e_s1, e_s2, e_s3, e_s4, e_s5, e_s6, e_s7, e_s8, e_s9, e_s10, e_s11, e_s12, e_s13, e_t0, e_t1, e_t2, e_t3, e_t4, e_t5, e_t6, e_t7, e_t8, e_t9, e_t10, e_t11, e_t12, e_t13, e_fd, e_kk, e_k0, e_k1, e_k2, e_k3, e_k4, e_k5, e_k6, e_k7, e_k8, e_k9, e_sv0, e_sv1, e_sv2, e_sv3, e_svc, e_pf0, e_pf1, e_pf2, e_pf3, e_ar, e_aa, e_al, e_sw1, e_sw2, e_ct0, e_ct1, e_ct2, e_cat0, e_cat1, e_rk0, e_rk1, e_rk2, e_inv0, e_inv1, e_inv2, e_inv3, e_inv4, e_inv5, e_inv6, e_o0, e_o1, e_cl, e_cle, e_cg, e_cge, e_ce, e_cr1, e_cr2, e_r, e_R, e_up, Int.cast_ofNat_Int, u_app, false_and, and_false, e_b0, e_b1, e_bn, e_bl, e_bu, Int.reduceLE, Int.reduceLT, Int.reduceEq, Int.reduceNeg, Int.reduceAdd, Int.reduceSub, Int.reduceMul, Nat.reduceLeDiff, Nat.reduceLT, Nat.reduceAdd, Nat.reduceEqDiff, true_and, and_true, true_or, or_true, false_or, or_false, forall_const, not_true_eq_false, not_false_eq_true, true_implies, false_implies, implies_true, and_self, zero_ne_one, one_ne_zero, eq_self, reduceIte, s_X11_findNeeds_0, b_X11_findNeeds_0, s_X11_findNeeds_2, b_X11_findNeeds_2, s_X11_findNeeds_8, b_X11_findNeeds_8, s_X11_findNeeds_21, b_X11_findNeeds_21, s_X11_findNeeds_32, b_X11_findNeeds_32, s_X11_findNeeds_36, b_X11_findNeeds_36, s_X11_findNeeds_52, b_X11_findNeeds_52, s_X11_findNeeds_63, b_X11_findNeeds_63, s_X11_findNeeds_90, b_X11_findNeeds_90, s_X11_findNeeds_96, b_X11_findNeeds_96, g_X11_45, g_X11_39, g_X11_36, G_X11_findNeeds_142, sp_X11_needOf_e, T_95, T_93, T_92, u_blk]
    have h3 := ho k h1 (by omega)
    refine ⟨by omega, by omega, by omega, fun c => by omega, fun c => ?_⟩
    refine ⟨by omega, by omega, by omega, by omega, by omega, by omega, ?_⟩
    rw [q_blk_up (by omega) (by omega), if_pos (by omega)]
    have e : (fun j => if j = μ 92 (3 * b + k) then q_or (n (μ 92 (3 * b + k))) its else n j) = (fun j => if j = μ 92 (3 * b + k) then q_or (n j) its else n j) := by
      funext j
      split
      · rename_i e; rw [e]
      · rfl
    rw [e]
    exact ih (k + 1) _ (by omega) (by omega) hk
set_option maxRecDepth 100000 in
theorem fn_b {Rt : Option QV → QM → Prop} {S : Nat → QL → List QV → QM → Prop} (hR : q_Rule cX11_findNeeds 6 u_X11_findNeeds fl_X11 ld_X11 G_X11_findNeeds q_T 4 s_X11_findNeeds Rt S) {μ : QM} {B t : Int} (hB : 0 ≤ B ∧ B < 10) (hd : m_dim (μ 85 2) (μ 85 3)) (hr : m_rok (μ 89) (μ 91) (μ 93) (fun b k => μ 92 (3 * b + k)) (B + 1)) : ∀ (b : Nat) (n : Int → Int) (l4 l5 : Option QV), (b : Int) ≤ B + 1 → (∀ j, m_sub (μ 85 2) (μ 85 3) (n j)) → Rt none (q_blk μ 95 10 (m_ndr (μ 85 2) (μ 85 3) (μ 89) (μ 93) (fun b k => μ 92 (3 * b + k)) b n)) → S 32 [some (.inr (.inr 85)), some (.inl B), some (.inl t), some (.inl ((b : Int) - 1)), l4, l5] [] (q_blk μ 95 10 n) := by
  intro b
  induction b with
  | zero =>
    intro n l4 l5 h1 h2 hk
    refine hR 60 b_X11_findNeeds_32 32 _ _ _ o_X11_findNeeds_32 ?_
    simp only [v_opt_n, v_opt_s, v_nil, v_iconst, v_bipush, v_sipush, v_lconst0, v_lconst1, v_ldc, v_ldcw, v_ldc2, v_iload0, v_iload1, v_iload2, v_iload3, v_iload, v_lload0, v_lload1, v_lload2, v_lload3, v_lload, v_aload0, v_aload1, v_aload2, v_aload3, v_aload, v_istore0, v_istore1, v_istore2, v_istore3, v_istore, v_lstore0, v_lstore1, v_lstore2, v_lstore3, v_lstore, v_astore0, v_astore1, v_astore2, v_astore3, v_astore, v_iinc, v_iadd, v_isub, v_imul, v_iand, v_ior, v_ixor, v_ishl, v_ishr, v_iushr, v_ineg, v_idiv, v_irem, v_ladd, v_lsub, v_lmul, v_lcmp, v_i2l, v_l2i, v_i2c, v_dup, v_dup2, v_if_eq, v_if_ne, v_if_lt, v_if_ge, v_if_gt, v_if_le, v_ic_eq, v_ic_ne, v_ic_lt, v_ic_ge, v_ic_gt, v_ic_le, v_goto, v_tsw, v_lsw, v_ireturn, v_areturn, v_return, v_iaload, v_laload, v_baload, v_caload, v_aaload, v_iastore, v_lastore, v_bastore, v_castore, v_alen, v_invvi, v_invst, v_invsp, e_int, e_lng, e_ref, e_lg0, e_lg1, e_lg2, e_lg3, e_lg4, e_lg5, e_lg6, e_lg7, e_lg8, e_lg9, e_lg10, e_lg11, e_lg12, e_lg13, e_clrI, e_clrJ, e_clrP, e_clrN, e_s0, e_s1, e_s2, e_s3, e_s4, e_s5, e_s6, e_s7, e_s8, e_s9, e_s10, e_s11, e_s12, e_s13, e_t0, e_t1, e_t2, e_t3, e_t4, e_t5, e_t6, e_t7, e_t8, e_t9, e_t10, e_t11, e_t12, e_t13, e_fd, e_kk, e_k0, e_k1, e_k2, e_k3, e_k4, e_k5, e_k6, e_k7, e_k8, e_k9, e_sv0, e_sv1, e_sv2, e_sv3, e_svc, e_pf0, e_pf1, e_pf2, e_pf3, e_ar, e_aa, e_al, e_sw1, e_sw2, e_ct0, e_ct1, e_ct2, e_cat0, e_cat1, e_rk0, e_rk1, e_rk2, e_inv0, e_inv1, e_inv2, e_inv3, e_inv4, e_inv5, e_inv6, e_o0, e_o1, e_cl, e_cle, e_cg, e_cge, e_ce, e_cr1, e_cr2, e_r, e_R, e_up, Int.cast_ofNat_Int, u_app, false_and, and_false, e_b0, e_b1, e_bn, e_bl, e_bu, Int.reduceLE, Int.reduceLT, Int.reduceEq, Int.reduceNeg, Int.reduceAdd, Int.reduceSub, Int.reduceMul, Nat.reduceLeDiff, Nat.reduceLT, Nat.reduceAdd, Nat.reduceEqDiff, true_and, and_true, true_or, or_true, false_or, or_false, forall_const, not_true_eq_false, not_false_eq_true, true_implies, false_implies, implies_true, and_self, zero_ne_one, one_ne_zero, eq_self, reduceIte, s_X11_findNeeds_0, b_X11_findNeeds_0, s_X11_findNeeds_2, b_X11_findNeeds_2, s_X11_findNeeds_8, b_X11_findNeeds_8, s_X11_findNeeds_21, b_X11_findNeeds_21, s_X11_findNeeds_32, b_X11_findNeeds_32, s_X11_findNeeds_36, b_X11_findNeeds_36, s_X11_findNeeds_52, b_X11_findNeeds_52, s_X11_findNeeds_63, b_X11_findNeeds_63, s_X11_findNeeds_90, b_X11_findNeeds_90, s_X11_findNeeds_96, b_X11_findNeeds_96, g_X11_45, g_X11_39, g_X11_36, G_X11_findNeeds_142, sp_X11_needOf_e, T_95, T_93, T_92, u_blk]
    exact hk
  | succ b ih =>
    intro n l4 l5 h1 h2 hk
    have e1 : ((b + 1 : Nat) : Int) - 1 = (b : Int) := by omega
    rw [e1]
    obtain ⟨r1, r2, r3, r4, r5, r6⟩ := hr b (by omega) (by omega)
    have hc : 0 ≤ (b : Int) ∧ (b : Int) < 10 := by omega
    refine hR 60 b_X11_findNeeds_32 32 _ _ _ o_X11_findNeeds_32 ?_
    simp only [v_opt_n, v_opt_s, v_nil, v_iconst, v_bipush, v_sipush, v_lconst0, v_lconst1, v_ldc, v_ldcw, v_ldc2, v_iload0, v_iload1, v_iload2, v_iload3, v_iload, v_lload0, v_lload1, v_lload2, v_lload3, v_lload, v_aload0, v_aload1, v_aload2, v_aload3, v_aload, v_istore0, v_istore1, v_istore2, v_istore3, v_istore, v_lstore0, v_lstore1, v_lstore2, v_lstore3, v_lstore, v_astore0, v_astore1, v_astore2, v_astore3, v_astore, v_iinc, v_iadd, v_isub, v_imul, v_iand, v_ior, v_ixor, v_ishl, v_ishr, v_iushr, v_ineg, v_idiv, v_irem, v_ladd, v_lsub, v_lmul, v_lcmp, v_i2l, v_l2i, v_i2c, v_dup, v_dup2, v_if_eq, v_if_ne, v_if_lt, v_if_ge, v_if_gt, v_if_le, v_ic_eq, v_ic_ne, v_ic_lt, v_ic_ge, v_ic_gt, v_ic_le, v_goto, v_tsw, v_lsw, v_ireturn, v_areturn, v_return, v_iaload, v_laload, v_baload, v_caload, v_aaload, v_iastore, v_lastore, v_bastore, v_castore, v_alen, v_invvi, v_invst, v_invsp, e_int, e_lng, e_ref, e_lg0, e_lg1, e_lg2, e_lg3, e_lg4, e_lg5, e_lg6, e_lg7, e_lg8, e_lg9, e_lg10, e_lg11, e_lg12, e_lg13, e_clrI, e_clrJ, e_clrP, e_clrN, e_s0, e_s1, e_s2, e_s3, e_s4, e_s5, e_s6, e_s7, e_s8, e_s9, e_s10, e_s11, e_s12, e_s13, e_t0, e_t1, e_t2, e_t3, e_t4, e_t5, e_t6, e_t7, e_t8, e_t9, e_t10, e_t11, e_t12, e_t13, e_fd, e_kk, e_k0, e_k1, e_k2, e_k3, e_k4, e_k5, e_k6, e_k7, e_k8, e_k9, e_sv0, e_sv1, e_sv2, e_sv3, e_svc, e_pf0, e_pf1, e_pf2, e_pf3, e_ar, e_aa, e_al, e_sw1, e_sw2, e_ct0, e_ct1, e_ct2, e_cat0, e_cat1, e_rk0, e_rk1, e_rk2, e_inv0, e_inv1, e_inv2, e_inv3, e_inv4, e_inv5, e_inv6, e_o0, e_o1, e_cl, e_cle, e_cg, e_cge, e_ce, e_cr1, e_cr2, e_r, e_R, e_up, Int.cast_ofNat_Int, u_app, false_and, and_false, e_b0, e_b1, e_bn, e_bl, e_bu, Int.reduceLE, Int.reduceLT, Int.reduceEq, Int.reduceNeg, Int.reduceAdd, Int.reduceSub, Int.reduceMul, Nat.reduceLeDiff, Nat.reduceLT, Nat.reduceAdd, Nat.reduceEqDiff, true_and, and_true, true_or, or_true, false_or, or_false, forall_const, not_true_eq_false, not_false_eq_true, true_implies, false_implies, implies_true, and_self, zero_ne_one, one_ne_zero, eq_self, reduceIte, s_X11_findNeeds_0, b_X11_findNeeds_0, s_X11_findNeeds_2, b_X11_findNeeds_2, s_X11_findNeeds_8, b_X11_findNeeds_8, s_X11_findNeeds_21, b_X11_findNeeds_21, s_X11_findNeeds_32, b_X11_findNeeds_32, s_X11_findNeeds_36, b_X11_findNeeds_36, s_X11_findNeeds_52, b_X11_findNeeds_52, s_X11_findNeeds_63, b_X11_findNeeds_63, s_X11_findNeeds_90, b_X11_findNeeds_90, s_X11_findNeeds_96, b_X11_findNeeds_96, g_X11_45, g_X11_39, g_X11_36, G_X11_findNeeds_142, sp_X11_needOf_e, T_95, T_93, T_92, u_blk, hc]
    refine ⟨by omega, fun c => by omega, fun c => ⟨by omega, r1, r4, hd, h2 b, ?_⟩⟩
    have e2 : (b : Int) + -1 = (b : Int) - 1 := by omega
    by_cases c0 : μ 89 b = 0
    · refine fn_k hR hc r2 r3 0 0 n (by omega) (by have := (r5 c0).1; omega) (fun l4 l5 => ?_)
      rw [e2]
      refine ih n l4 l5 (by omega) h2 ?_
      have e3 : m_ndr (μ 85 2) (μ 85 3) (μ 89) (μ 93) (fun b k => μ 92 (3 * b + k)) (b + 1) n = m_ndr (μ 85 2) (μ 85 3) (μ 89) (μ 93) (fun b k => μ 92 (3 * b + k)) b (m_nds (μ 85 2) (μ 85 3) (μ 89) (μ 93) (fun b k => μ 92 (3 * b + k)) (b : Int) n) := rfl
      have e4 : m_nds (μ 85 2) (μ 85 3) (μ 89) (μ 93) (fun b k => μ 92 (3 * b + k)) (b : Int) n = n := by
        unfold m_nds
        rw [(r5 c0).1]
        rfl
      rw [e3, e4] at hk
      exact hk
    · rw [if_neg c0]
      refine fn_k hR hc r2 r3 (μ 93 b).toNat 0 n (by omega) (by omega) (fun l4 l5 => ?_)
      rw [e2]
      exact ih _ l4 l5 (by omega) (m_ndx_sub (m_sub_need (h2 b)) _ _ _ h2) hk
set_option maxRecDepth 100000 in
set_option maxHeartbeats 4000000 in
theorem B_X11_findNeeds : q_Body cX11_findNeeds 6 u_X11_findNeeds fl_X11 ld_X11 G_X11_findNeeds q_T 4 s_X11_findNeeds sp_X11_findNeeds := by
  intro S Rt hR ra μ h
  obtain ⟨this, board, tile, rfl, h⟩ := sp_X11_findNeeds_i h
  refine ⟨by simp [q_sl, q_ct], ?_⟩
  show S 0 [some (.inr (.inr this)), some (.inl board), some (.inl tile), none, none, none] [] μ
  obtain ⟨rfl, h1, h2, h3, h4, hk⟩ := h
  refine hR 60 [] 0 _ _ _ rfl ?_
  simp only [v_opt_n, v_opt_s, v_nil, v_iconst, v_bipush, v_sipush, v_lconst0, v_lconst1, v_ldc, v_ldcw, v_ldc2, v_iload0, v_iload1, v_iload2, v_iload3, v_iload, v_lload0, v_lload1, v_lload2, v_lload3, v_lload, v_aload0, v_aload1, v_aload2, v_aload3, v_aload, v_istore0, v_istore1, v_istore2, v_istore3, v_istore, v_lstore0, v_lstore1, v_lstore2, v_lstore3, v_lstore, v_astore0, v_astore1, v_astore2, v_astore3, v_astore, v_iinc, v_iadd, v_isub, v_imul, v_iand, v_ior, v_ixor, v_ishl, v_ishr, v_iushr, v_ineg, v_idiv, v_irem, v_ladd, v_lsub, v_lmul, v_lcmp, v_i2l, v_l2i, v_i2c, v_dup, v_dup2, v_if_eq, v_if_ne, v_if_lt, v_if_ge, v_if_gt, v_if_le, v_ic_eq, v_ic_ne, v_ic_lt, v_ic_ge, v_ic_gt, v_ic_le, v_goto, v_tsw, v_lsw, v_ireturn, v_areturn, v_return, v_iaload, v_laload, v_baload, v_caload, v_aaload, v_iastore, v_lastore, v_bastore, v_castore, v_alen, v_invvi, v_invst, v_invsp, e_int, e_lng, e_ref, e_lg0, e_lg1, e_lg2, e_lg3, e_lg4, e_lg5, e_lg6, e_lg7, e_lg8, e_lg9, e_lg10, e_lg11, e_lg12, e_lg13, e_clrI, e_clrJ, e_clrP, e_clrN, e_s0, e_s1, e_s2, e_s3, e_s4, e_s5, e_s6, e_s7, e_s8, e_s9, e_s10, e_s11, e_s12, e_s13, e_t0, e_t1, e_t2, e_t3, e_t4, e_t5, e_t6, e_t7, e_t8, e_t9, e_t10, e_t11, e_t12, e_t13, e_fd, e_kk, e_k0, e_k1, e_k2, e_k3, e_k4, e_k5, e_k6, e_k7, e_k8, e_k9, e_sv0, e_sv1, e_sv2, e_sv3, e_svc, e_pf0, e_pf1, e_pf2, e_pf3, e_ar, e_aa, e_al, e_sw1, e_sw2, e_ct0, e_ct1, e_ct2, e_cat0, e_cat1, e_rk0, e_rk1, e_rk2, e_inv0, e_inv1, e_inv2, e_inv3, e_inv4, e_inv5, e_inv6, e_o0, e_o1, e_cl, e_cle, e_cg, e_cge, e_ce, e_cr1, e_cr2, e_r, e_R, e_up, Int.cast_ofNat_Int, u_app, false_and, and_false, e_b0, e_b1, e_bn, e_bl, e_bu, Int.reduceLE, Int.reduceLT, Int.reduceEq, Int.reduceNeg, Int.reduceAdd, Int.reduceSub, Int.reduceMul, Nat.reduceLeDiff, Nat.reduceLT, Nat.reduceAdd, Nat.reduceEqDiff, true_and, and_true, true_or, or_true, false_or, or_false, forall_const, not_true_eq_false, not_false_eq_true, true_implies, false_implies, implies_true, and_self, zero_ne_one, one_ne_zero, eq_self, reduceIte, s_X11_findNeeds_0, b_X11_findNeeds_0, s_X11_findNeeds_2, b_X11_findNeeds_2, s_X11_findNeeds_8, b_X11_findNeeds_8, s_X11_findNeeds_21, b_X11_findNeeds_21, s_X11_findNeeds_32, b_X11_findNeeds_32, s_X11_findNeeds_36, b_X11_findNeeds_36, s_X11_findNeeds_52, b_X11_findNeeds_52, s_X11_findNeeds_63, b_X11_findNeeds_63, s_X11_findNeeds_90, b_X11_findNeeds_90, s_X11_findNeeds_96, b_X11_findNeeds_96, g_X11_45, g_X11_39, g_X11_36, G_X11_findNeeds_142, sp_X11_needOf_e]
  refine fn_0 hR h1 (by omega) 11 0 μ (by omega) (by omega) (by omega) (fun l3 e => ?_)
  subst e
  rw [q_fill_blk, q_blk_up h1.1 h1.2]
  have e : (board : Int) = (((board + 1).toNat : Nat) : Int) - 1 := by omega
  have := fn_b hR (t := tile) h1 h2 h4 (board + 1).toNat (fun j => if j = board then q_shl 1 tile else 0) none none (by omega) (fun j => by
    show m_sub _ _ (if j = board then q_shl 1 tile else 0)
    split
    · exact m_sub_one h3
    · exact m_sub_0 _ _) hk
  rw [← e] at this
  exact this
set_option maxRecDepth 100000 in
theorem C_X11_findNeeds {l : Launch} {ad : Int → Nat} {D : va_G} {cy : Nat → ClassId} {Z : State → Prop} (hZ : q_Zg ad Z) : q_Ct l q_T q_N ad D cy Z yX11_findNeeds cX11_findNeeds 6 none rm_X11_findNeeds sp_X11_findNeeds := by
  obtain ⟨hf, hg, hld⟩ := q_chkS k_X11_findNeeds
  refine q_met (rk := 4) q_wokT (by decide) rfl hf hg hld rfl (q_skS L_X11_findNeeds o_X11_findNeeds) ?_ ?_ ?_ ?_ B_X11_findNeeds
  · intro i hi; exact absurd hi List.not_mem_nil
  · intro i hi
    have hi : i = 142 := by simpa [u_X11_findNeeds] using hi
    rcases hi with rfl
    · exact q_crV hZ.1 (C_X11_needOf hZ) rv_X11_needOf cm_X11_needOf (by decide +kernel) (by decide +kernel) (by decide +kernel) (by decide +kernel) (by decide +kernel) ⟨rfl, rfl⟩ (by decide)
  · intro i hi; exact absurd hi List.not_mem_nil
  · intro i hi; exact absurd hi List.not_mem_nil
theorem rv_X11_findNeeds : q_rcv q_T yX11_findNeeds.cls sp_X11_findNeeds := by
  intro ra μ K h
  obtain ⟨this, board, tile, rfl, h⟩ := sp_X11_findNeeds_i h
  obtain rfl := h.1
  exact ⟨[.inl tile, .inl board], 85, 11, _, _, rfl, T_85, rfl, rfl⟩
theorem cm_X11_findNeeds : Cond.code yX11_findNeeds cX11_findNeeds 6 none ∈ q_tb := by decide +kernel

