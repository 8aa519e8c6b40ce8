/-! the class: zones, whole -/
theorem m_tr_sh {g : Int → Int} (c : Int) : ∀ (d : Nat) (u : Int) (s : QT), m_tr (fun j => g (c + j)) d u s = m_tr g d (c + u) s
  | 0, _, _ => rfl
  | d + 1, u, s => by
    show m_tr (fun j => g (c + j)) d (u + 1) (m_tk (g (c + u)) s) = m_tr g d (c + u + 1) (m_tk (g (c + u)) s)
    rw [m_tr_sh c d (u + 1), show c + (u + 1) = c + u + 1 by omega]
/-- rows of places, one behind the other -/
theorem c_rows {g : Int → Int} {w : Nat} (hw : w ≤ 12) : ∀ (k : Nat) (v : Int) (s : QT), (∀ u j : Int, v ≤ j → j < v + k → (u = -1 ∨ (w ≤ u ∧ u ≤ 12)) → g (c_p u j) = -2000000000) → m_tr g (14 * k) ((v + 1) * 14) s = m_trr (fun u j => g (c_p u j)) 0 w k v s
  | 0, v, s, _ => rfl
  | k + 1, v, s, h => by
    have e1 : m_tr g 14 ((v + 1) * 14) s = m_tr (fun u => g (c_p u v)) w 0 s := by
      have e2 : (fun u => g (c_p u v)) = (fun u => g (((v + 1) * 14 + 1) + u)) := by
        funext u
        show g ((v + 1) * 14 + u + 1) = g ((v + 1) * 14 + 1 + u)
        congr 1
        omega
      rw [e2, m_tr_sh]
      rw [m_tr_cut (a := (v + 1) * 14 + 1) (b := (v + 1) * 14 + w) (fun j j0 j1 hn => ?_) (by omega) (by omega) (by omega)]
      · rw [show ((v + 1) * 14 + (w : Int) + 1 - ((v + 1) * 14 + 1)).toNat = w by omega, show (v + 1) * 14 + 1 + 0 = (v + 1) * 14 + 1 by omega]
      · have := h (j - (v + 1) * 14 - 1) v (by omega) (by omega) (by omega)
        have e3 : c_p (j - (v + 1) * 14 - 1) v = j := by
          show (v + 1) * 14 + (j - (v + 1) * 14 - 1) + 1 = j
          omega
        rw [e3] at this
        exact this
    rw [show 14 * (k + 1) = 14 + 14 * k by omega, m_tr_app, e1, show (v + 1) * 14 + ((14 : Nat) : Int) = (v + 1 + 1) * 14 by omega]
    exact c_rows hw k (v + 1) _ (fun u j j0 j1 => h u j (by omega) (by omega))
/-- the fold over all places is the fold over the grid -/
theorem c_line {g : Int → Int} {w h : Int} (hd : m_dim w h) {s : QT} (hg : ∀ u v : Int, -1 ≤ u → u ≤ 12 → -1 ≤ v → v ≤ 12 → ¬ m_in w h u v → g (c_p u v) = -2000000000) : m_tr g 166 15 s = m_trr (fun u j => g (c_p u j)) 0 w.toNat h.toNat 0 s := by
  have e1 : m_tr g (14 * 12) ((0 + 1) * 14) s = m_tr g 166 15 s := by
    rw [m_tr_cut (a := 15) (b := 180) (fun j j0 j1 hn => ?_) (by omega) (by omega) (by omega)]
    · rfl
    · have : j = 14 ∨ j = 181 := by omega
      rcases this with rfl | rfl
      · exact hg (-1) 0 (by omega) (by omega) (by omega) (by omega) (by omega)
      · exact hg 12 11 (by omega) (by omega) (by omega) (by omega) (by omega)
  rw [← e1, c_rows (w := w.toNat) (by omega) 12 0 s (fun u j j0 j1 hu => hg u j (by omega) (by omega) (by omega) (by omega) (by omega))]
  obtain ⟨e, he⟩ : ∃ e : Nat, 12 = h.toNat + e := ⟨12 - h.toNat, by omega⟩
  have e2 := m_trr_app (fun u j => g (c_p u j)) 0 w.toNat h.toNat e 0 s
  rw [← he] at e2
  rw [e2]
  have : ∀ s : QT, m_trr (fun u j => g (c_p u j)) 0 w.toNat e (0 + (h.toNat : Int)) s = s := fun s => by
    have e3 := m_trr_cg (f := fun u j => g (c_p u j)) (g := fun _ _ => -2000000000) (u0 := 0) (k := w.toNat) e (0 + (h.toNat : Int)) s (fun i j i0 i1 j0 j1 => hg i j (by omega) (by omega) (by omega) (by omega) (by omega))
    rw [e3]
    exact m_trr_g e _ s (fun _ _ _ _ => rfl)
  exact this _
/-- what lies outside the grid is a gap -/
def c_gp (μ : QM) (a w h : Int) : Prop := ∀ u v : Int, -1 ≤ u → u ≤ 12 → -1 ≤ v → v ≤ 12 → ¬ m_in w h u v → μ a (c_p u v) = -2000000000
/-- a place is a cell's or a margin's -/
theorem c_p_ex {p : Int} (h : 0 ≤ p ∧ p < 196) : ∃ u v : Int, -1 ≤ u ∧ u ≤ 12 ∧ -1 ≤ v ∧ v ≤ 12 ∧ p = c_p u v := ⟨p % 14 - 1, p / 14 - 1, by omega, by omega, by omega, by omega, by show p = (p / 14 - 1 + 1) * 14 + (p % 14 - 1) + 1; omega⟩
def c_Z (μ : QM) (a b how v : Int) : Int := m_ans how (m_tr (c_g μ a b v) 166 15 (0, 0, 0, 0))
theorem c_Z_e {μ : QM} {a b how w h x y : Int} (hd : m_dim w h) (hb : c_gp μ b w h) (hn : ¬ c_A μ b x y = -2000000000) : c_Z μ a b how (c_A μ b x y) = m_zone w h how (c_A μ a) (c_A μ b) x y := by
  unfold c_Z m_zone
  rw [if_neg hn, c_line hd (fun u v u0 u1 v0 v1 hi => if_neg (fun q => hn (by rw [← q]; exact hb u v u0 u1 v0 v1 hi)))]
def sp_X1_zones : QP := fun ra μ K => match ra with
  | [.inr (.inr out), .inr (.inr b), .inr (.inr a), .inl how, .inr (.inr this)] => this = 34 ∧ (how = 4 ∨ how = 5 ∨ how = 13 ∨ how = 14) ∧ c_vn a ∧ c_vn b ∧ c_vn out ∧ ¬ a = out ∧ ¬ b = out ∧ (∀ p : Int, 15 ≤ p → p ≤ 180 → m_vr (μ a p) ∧ m_vr (μ b p)) ∧ ∀ ν : QM, (∀ c j : Int, ¬ c = 35 → ¬ c = 38 → ¬ c = out → ν c j = μ c j) → (∀ j : Int, ν out j = if 15 ≤ j ∧ j ≤ 180 then (if μ b j = -2000000000 then -2000000000 else c_Z μ a b how (μ b j)) else μ out j) → K none ν
  | _ => False
theorem sp_X1_zones_e (this how a b out : Int) (μ : QM) (K : Option QV → QM → Prop) : sp_X1_zones [.inr (.inr out), .inr (.inr b), .inr (.inr a), .inl how, .inr (.inr this)] μ K = (this = 34 ∧ (how = 4 ∨ how = 5 ∨ how = 13 ∨ how = 14) ∧ c_vn a ∧ c_vn b ∧ c_vn out ∧ ¬ a = out ∧ ¬ b = out ∧ (∀ p : Int, 15 ≤ p → p ≤ 180 → m_vr (μ a p) ∧ m_vr (μ b p)) ∧ ∀ ν : QM, (∀ c j : Int, ¬ c = 35 → ¬ c = 38 → ¬ c = out → ν c j = μ c j) → (∀ j : Int, ν out j = if 15 ≤ j ∧ j ≤ 180 then (if μ b j = -2000000000 then -2000000000 else c_Z μ a b how (μ b j)) else μ out j) → K none ν) := propext Iff.rfl
theorem sp_X1_zones_i {ra : List QV} {μ : QM} {K : Option QV → QM → Prop} (h : sp_X1_zones ra μ K) : ∃ this how a b out : Int, ra = [.inr (.inr out), .inr (.inr b), .inr (.inr a), .inl how, .inr (.inr this)] ∧ (this = 34 ∧ (how = 4 ∨ how = 5 ∨ how = 13 ∨ how = 14) ∧ c_vn a ∧ c_vn b ∧ c_vn out ∧ ¬ a = out ∧ ¬ b = out ∧ (∀ p : Int, 15 ≤ p → p ≤ 180 → m_vr (μ a p) ∧ m_vr (μ b p)) ∧ ∀ ν : QM, (∀ c j : Int, ¬ c = 35 → ¬ c = 38 → ¬ c = out → ν c j = μ c j) → (∀ j : Int, ν out j = if 15 ≤ j ∧ j ≤ 180 then (if μ b j = -2000000000 then -2000000000 else c_Z μ a b how (μ b j)) else μ out j) → K none ν) := by
  unfold sp_X1_zones at h
  split at h
  · exact ⟨_, _, _, _, _, rfl, h⟩
  · exact h.elim
def rm_X1_zones : Room := { frames := 2, cells := 0, slots := 0, locals := 45 }
def G_X1_zones : Nat → Nat × QP := fun i => match i with
  | 133 => (4, sp_X1_tallyZone)
  | 130 => (2, sp_X6_answer)
  | 137 => (5, sp_X1_fillZone)
  | _ => (0, fun _ _ _ => False)
theorem G_X1_zones_133 : G_X1_zones 133 = (4, sp_X1_tallyZone) := id rfl
theorem G_X1_zones_130 : G_X1_zones 130 = (2, sp_X6_answer) := id rfl
theorem G_X1_zones_137 : G_X1_zones 137 = (5, sp_X1_fillZone) := id rfl
/-- zones are filled as far as p -/
def zo_in (μ : QM) (a b out how p : Int) (ν : QM) : Prop := (∀ c j : Int, ¬ c = 35 → ¬ c = 38 → ¬ c = out → ν c j = μ c j) ∧ (∀ j : Int, ¬ (15 ≤ j ∧ j ≤ 180) → ν out j = μ out j) ∧ ∀ j : Int, 15 ≤ j → j ≤ 180 → ((ν 38 j = 1 ∧ μ b j = -2000000000 ∧ ν out j = -2000000000) ∨ (ν 38 j = 1 ∧ ¬ μ b j = -2000000000 ∧ (∃ q : Int, 15 ≤ q ∧ q < p ∧ μ b q = μ b j) ∧ ν out j = c_Z μ a b how (μ b j)) ∨ (ν 38 j = 0 ∧ ¬ μ b j = -2000000000 ∧ ∀ q : Int, 15 ≤ q → q < p → ¬ μ b q = μ b j))
theorem zo_50 {Rt : Option QV → QM → Prop} {S : Nat → QL → List QV → QM → Prop} (hR : q_Rule cX1_zones 6 u_X1_zones fl_X1 ld_X1 G_X1_zones q_T 4 s_X1_zones Rt S) {μ : QM} {a b out how : Int} (hhow : how = 4 ∨ how = 5 ∨ how = 13 ∨ how = 14) (ha : c_vn a) (hb : c_vn b) (ho : c_vn out) (hna : ¬ a = out) (hnb : ¬ b = out) (hv : ∀ p : Int, 15 ≤ p → p ≤ 180 → m_vr (μ a p) ∧ m_vr (μ b p)) (hk : ∀ ν : QM, zo_in μ a b out how 181 ν → Rt none ν) : ∀ (d : Nat) (p : Int) (ν : QM), 15 ≤ p → p + d = 181 → zo_in μ a b out how p ν → S 50 [some (.inr (.inr 34)), some (.inl how), some (.inr (.inr a)), some (.inr (.inr b)), some (.inr (.inr out)), some (.inl p)] [] ν := by
  intro d
  induction d with
  | zero =>
    intro p ν h1 h2 hi
    obtain rfl : p = 181 := by omega
    refine hR 60 b_X1_zones_50 50 _ _ _ o_X1_zones_50 ?_
    simp only [v_opt_n, v_opt_s, v_nil, v_iconst, v_bipush, v_sipush, v_lconst0, v_lconst1, v_ldc, v_ldcw, v_ldc2, v_iload0, v_iload1, v_iload2, v_iload3, v_iload, v_lload0, v_lload1, v_lload2, v_lload3, v_lload, v_aload0, v_aload1, v_aload2, v_aload3, v_aload, v_istore0, v_istore1, v_istore2, v_istore3, v_istore, v_lstore0, v_lstore1, v_lstore2, v_lstore3, v_lstore, v_astore0, v_astore1, v_astore2, v_astore3, v_astore, v_iinc, v_iadd, v_isub, v_imul, v_iand, v_ior, v_ixor, v_ishl, v_ishr, v_iushr, v_ineg, v_idiv, v_irem, v_ladd, v_lsub, v_lmul, v_lcmp, v_i2l, v_l2i, v_i2c, v_dup, v_dup2, v_if_eq, v_if_ne, v_if_lt, v_if_ge, v_if_gt, v_if_le, v_ic_eq, v_ic_ne, v_ic_lt, v_ic_ge, v_ic_gt, v_ic_le, v_goto, v_tsw, v_lsw, v_ireturn, v_areturn, v_return, v_iaload, v_laload, v_baload, v_caload, v_aaload, v_iastore, v_lastore, v_bastore, v_castore, v_alen, v_invvi, v_invst, v_invsp, e_int, e_lng, e_ref, e_lg0, e_lg1, e_lg2, e_lg3, e_lg4, e_lg5, e_lg6, e_lg7, e_lg8, e_lg9, e_lg10, e_lg11, e_lg12, e_lg13, e_clrI, e_clrJ, e_clrP, e_clrN, e_s0, e_s1, e_s2, e_s3, e_s4, e_s5, e_s6, e_s7, e_s8, e_s9, e_s10, e_s11, e_s12, e_s13, e_t0, e_t1, e_t2, e_t3, e_t4, e_t5, e_t6, e_t7, e_t8, e_t9, e_t10, e_t11, e_t12, e_t13, e_fd, e_kk, e_k0, e_k1, e_k2, e_k3, e_k4, e_k5, e_k6, e_k7, e_k8, e_k9, e_sv0, e_sv1, e_sv2, e_sv3, e_svc, e_pf0, e_pf1, e_pf2, e_pf3, e_ar, e_aa, e_al, e_sw1, e_sw2, e_ct0, e_ct1, e_ct2, e_cat0, e_cat1, e_rk0, e_rk1, e_rk2, e_inv0, e_inv1, e_inv2, e_inv3, e_inv4, e_inv5, e_inv6, e_o0, e_o1, e_cl, e_cle, e_cg, e_cge, e_ce, e_cr1, e_cr2, e_r, e_R, e_up, Int.cast_ofNat_Int, u_app, false_and, and_false, e_b0, e_b1, e_bn, e_bl, e_bu, Int.reduceLE, Int.reduceLT, Int.reduceEq, Int.reduceNeg, Int.reduceAdd, Int.reduceSub, Int.reduceMul, Nat.reduceLeDiff, Nat.reduceLT, Nat.reduceAdd, Nat.reduceEqDiff, true_and, and_true, true_or, or_true, false_or, or_false, forall_const, not_true_eq_false, not_false_eq_true, true_implies, false_implies, implies_true, and_self, zero_ne_one, one_ne_zero, eq_self, reduceIte, s_X1_zones_0, b_X1_zones_0, s_X1_zones_4, b_X1_zones_4, s_X1_zones_12, b_X1_zones_12, s_X1_zones_27, b_X1_zones_27, s_X1_zones_31, b_X1_zones_31, s_X1_zones_32, b_X1_zones_32, s_X1_zones_46, b_X1_zones_46, s_X1_zones_50, b_X1_zones_50, s_X1_zones_58, b_X1_zones_58, s_X1_zones_68, b_X1_zones_68, s_X1_zones_93, b_X1_zones_93, s_X1_zones_99, b_X1_zones_99, g_X1_25, g_X1_12, ld_X1_100, G_X1_zones_133, sp_X1_tallyZone_e, G_X1_zones_130, sp_X6_answer_e, G_X1_zones_137, sp_X1_fillZone_e]
    exact hk ν hi
  | succ d ih =>
    intro p ν h1 h2 hi
    obtain ⟨i1, i2, i3⟩ := id hi
    refine hR 60 b_X1_zones_50 50 _ _ _ o_X1_zones_50 ?_
    simp only [v_opt_n, v_opt_s, v_nil, v_iconst, v_bipush, v_sipush, v_lconst0, v_lconst1, v_ldc, v_ldcw, v_ldc2, v_iload0, v_iload1, v_iload2, v_iload3, v_iload, v_lload0, v_lload1, v_lload2, v_lload3, v_lload, v_aload0, v_aload1, v_aload2, v_aload3, v_aload, v_istore0, v_istore1, v_istore2, v_istore3, v_istore, v_lstore0, v_lstore1, v_lstore2, v_lstore3, v_lstore, v_astore0, v_astore1, v_astore2, v_astore3, v_astore, v_iinc, v_iadd, v_isub, v_imul, v_iand, v_ior, v_ixor, v_ishl, v_ishr, v_iushr, v_ineg, v_idiv, v_irem, v_ladd, v_lsub, v_lmul, v_lcmp, v_i2l, v_l2i, v_i2c, v_dup, v_dup2, v_if_eq, v_if_ne, v_if_lt, v_if_ge, v_if_gt, v_if_le, v_ic_eq, v_ic_ne, v_ic_lt, v_ic_ge, v_ic_gt, v_ic_le, v_goto, v_tsw, v_lsw, v_ireturn, v_areturn, v_return, v_iaload, v_laload, v_baload, v_caload, v_aaload, v_iastore, v_lastore, v_bastore, v_castore, v_alen, v_invvi, v_invst, v_invsp, e_int, e_lng, e_ref, e_lg0, e_lg1, e_lg2, e_lg3, e_lg4, e_lg5, e_lg6, e_lg7, e_lg8, e_lg9, e_lg10, e_lg11, e_lg12, e_lg13, e_clrI, e_clrJ, e_clrP, e_clrN, e_s0, e_s1, e_s2, e_s3, e_s4, e_s5, e_s6, e_s7, e_s8, e_s9, e_s10, e_s11, e_s12, e_s13, e_t0, e_t1, e_t2, e_t3, e_t4, e_t5, e_t6, e_t7, e_t8, e_t9, e_t10, e_t11, e_t12, e_t13, e_fd, e_kk, e_k0, e_k1, e_k2, e_k3, e_k4, e_k5, e_k6, e_k7, e_k8, e_k9, e_sv0, e_sv1, e_sv2, e_sv3, e_svc, e_pf0, e_pf1, e_pf2, e_pf3, e_ar, e_aa, e_al, e_sw1, e_sw2, e_ct0, e_ct1, e_ct2, e_cat0, e_cat1, e_rk0, e_rk1, e_rk2, e_inv0, e_inv1, e_inv2, e_inv3, e_inv4, e_inv5, e_inv6, e_o0, e_o1, e_cl, e_cle, e_cg, e_cge, e_ce, e_cr1, e_cr2, e_r, e_R, e_up, Int.cast_ofNat_Int, u_app, false_and, and_false, e_b0, e_b1, e_bn, e_bl, e_bu, Int.reduceLE, Int.reduceLT, Int.reduceEq, Int.reduceNeg, Int.reduceAdd, Int.reduceSub, Int.reduceMul, Nat.reduceLeDiff, Nat.reduceLT, Nat.reduceAdd, Nat.reduceEqDiff, true_and, and_true, true_or, or_true, false_or, or_false, forall_const, not_true_eq_false, not_false_eq_true, true_implies, false_implies, implies_true, and_self, zero_ne_one, one_ne_zero, eq_self, reduceIte, s_X1_zones_0, b_X1_zones_0, s_X1_zones_4, b_X1_zones_4, s_X1_zones_12, b_X1_zones_12, s_X1_zones_27, b_X1_zones_27, s_X1_zones_31, b_X1_zones_31, s_X1_zones_32, b_X1_zones_32, s_X1_zones_46, b_X1_zones_46, s_X1_zones_50, b_X1_zones_50, s_X1_zones_58, b_X1_zones_58, s_X1_zones_68, b_X1_zones_68, s_X1_zones_93, b_X1_zones_93, s_X1_zones_99, b_X1_zones_99, g_X1_25, g_X1_12, ld_X1_100, G_X1_zones_133, sp_X1_tallyZone_e, G_X1_zones_130, sp_X6_answer_e, G_X1_zones_137, sp_X1_fillZone_e, T_38]
    have ea : ν a = μ a := funext fun j => i1 a j (by omega) (by omega) hna
    have eb : ν b = μ b := funext fun j => i1 b j (by omega) (by omega) hnb
    have hp3 := i3 p h1 (by omega)
    have hr : ν 38 p = 0 ∨ ν 38 p = 1 := by
      rcases hp3 with q | q | q
      · exact Or.inr q.1
      · exact Or.inr q.1
      · exact Or.inl q.1
    refine ⟨by omega, fun c => by omega, fun c => ⟨by omega, by omega, by omega, fun c1 => ih (p + 1) ν (by omega) (by omega) ⟨i1, i2, fun j j0 j1 => ?_⟩, fun c1 => ?_⟩⟩
    · rcases i3 j j0 j1 with q | ⟨q1, q2, ⟨z, z0, z1, z2⟩, q4⟩ | ⟨q1, q2, q3⟩
      · exact Or.inl q
      · exact Or.inr (Or.inl ⟨q1, q2, ⟨z, z0, by omega, z2⟩, q4⟩)
      · refine Or.inr (Or.inr ⟨q1, q2, fun z z0 z1 => ?_⟩)
        by_cases cz : z = p
        · rw [cz]
          rcases hp3 with r | ⟨r1, r2, ⟨y, y0, y1, y2⟩, r4⟩ | r
          · exact fun e => q2 (by rw [← e]; exact r.2.1)
          · exact fun e => q3 y y0 y1 (by rw [y2]; exact e)
          · exact absurd r.1 c1
        · exact q3 z z0 (by omega)
    · have hp4 : ¬ μ b p = -2000000000 ∧ ∀ q : Int, 15 ≤ q → q < p → ¬ μ b q = μ b p := by
        rcases hp3 with r | r | r
        · omega
        · have := r.1
          omega
        · exact r.2
      have eg : c_g ν a b (ν b p) = c_g μ a b (μ b p) := by
        funext q
        show (if ν b q = ν b p then ν a q else _) = _
        rw [ea, eb]
      rw [eg]
      refine ⟨by omega, by omega, ha, hb, ⟨h1, by omega⟩, fun z z0 z1 => by rw [ea, eb]; exact hv z z0 z1, fun ν1 f1 t1 m1 => ⟨hhow, _, _, m1, by omega, t1, by omega, by omega, hb, ho, hnb, ⟨h1, by omega⟩, fun z z0 z1 => ?_, fun ν2 f2 g1 g2 => ?_⟩⟩
      · rw [f1 b z (by omega), eb]
        have := (hv z z0 z1).2
        omega
      · have eb1 : ν1 b = μ b := funext fun j => by rw [f1 b j (by omega), eb]
        have es : m_ans how (m_tr (c_g μ a b (μ b p)) (181 - p).toNat p (0, 0, 0, 0)) = c_Z μ a b how (μ b p) := by
          unfold c_Z
          rw [m_tr_cut (u := 15) (d := 166) (a := p) (b := 180) (fun j j0 j1 hn => if_neg (hp4.2 j j0 (by omega))) (by omega) (by omega) (by omega)]
          rfl
        rw [es, eb1] at g1
        rw [eb1] at g2
        refine ih (p + 1) ν2 (by omega) (by omega) ⟨fun c j n1 n2 n3 => ?_, fun j hj => ?_, fun j j0 j1 => ?_⟩
        · rw [f2 c j n3 n2, f1 c j n1]
          exact i1 c j n1 n2 n3
        · rw [g1 j, if_neg (by omega), f1 _ _ (by omega)]
          exact i2 j hj
        · rw [g1 j, g2 j]
          by_cases cj : p ≤ j ∧ j ≤ 180 ∧ μ b j = μ b p
          · rw [if_pos cj, if_pos cj, cj.2.2]
            exact Or.inr (Or.inl ⟨rfl, hp4.1, ⟨p, h1, by omega, rfl⟩, rfl⟩)
          · rw [if_neg cj, if_neg cj, f1 38 j (by omega), f1 out j (by omega)]
            rcases i3 j j0 j1 with q | ⟨q1, q2, ⟨z, z0, z1, z2⟩, q4⟩ | ⟨q1, q2, q3⟩
            · exact Or.inl q
            · exact Or.inr (Or.inl ⟨q1, q2, ⟨z, z0, by omega, z2⟩, q4⟩)
            · refine Or.inr (Or.inr ⟨q1, q2, fun z z0 z1 => ?_⟩)
              by_cases cz : z = p
              · rw [cz]
                intro e
                have : ¬ p ≤ j := fun w => cj ⟨w, j1, e.symm⟩
                exact hp4.2 j j0 (by omega) e.symm
              · exact q3 z z0 (by omega)
theorem zo_4 {Rt : Option QV → QM → Prop} {S : Nat → QL → List QV → QM → Prop} (hR : q_Rule cX1_zones 6 u_X1_zones fl_X1 ld_X1 G_X1_zones q_T 4 s_X1_zones Rt S) {μ : QM} {a b out how : Int} (hb : c_vn b) (ho : c_vn out) (hnb : ¬ b = out) (hv : ∀ p : Int, 15 ≤ p → p ≤ 180 → m_vr (μ a p) ∧ m_vr (μ b p)) (hk : ∀ ν : QM, zo_in μ a b out how 15 ν → S 50 [some (.inr (.inr 34)), some (.inl how), some (.inr (.inr a)), some (.inr (.inr b)), some (.inr (.inr out)), some (.inl 15)] [] ν) : ∀ (d : Nat) (p : Int) (ν : QM), 15 ≤ p → p + d = 181 → (∀ c j : Int, ¬ c = 38 → ¬ c = out → ν c j = μ c j) → (∀ j : Int, ¬ (15 ≤ j ∧ j ≤ 180) → ν out j = μ out j) → (∀ j : Int, 15 ≤ j → j < p → ν out j = -2000000000 ∧ ((ν 38 j = 1 ∧ μ b j = -2000000000) ∨ (ν 38 j = 0 ∧ ¬ μ b j = -2000000000))) → S 4 [some (.inr (.inr 34)), some (.inl how), some (.inr (.inr a)), some (.inr (.inr b)), some (.inr (.inr out)), some (.inl p)] [] ν := by
  intro d
  have hTb := T_vn hb
  have hTo := T_vn ho
  induction d with
  | zero =>
    intro p ν h1 h2 i1 i2 i3
    obtain rfl : p = 181 := by omega
    refine hR 60 b_X1_zones_4 4 _ _ _ o_X1_zones_4 ?_
    simp only [v_opt_n, v_opt_s, v_nil, v_iconst, v_bipush, v_sipush, v_lconst0, v_lconst1, v_ldc, v_ldcw, v_ldc2, v_iload0, v_iload1, v_iload2, v_iload3, v_iload, v_lload0, v_lload1, v_lload2, v_lload3, v_lload, v_aload0, v_aload1, v_aload2, v_aload3, v_aload, v_istore0, v_istore1, v_istore2, v_istore3, v_istore, v_lstore0, v_lstore1, v_lstore2, v_lstore3, v_lstore, v_astore0, v_astore1, v_astore2, v_astore3, v_astore, v_iinc, v_iadd, v_isub, v_imul, v_iand, v_ior, v_ixor, v_ishl, v_ishr, v_iushr, v_ineg, v_idiv, v_irem, v_ladd, v_lsub, v_lmul, v_lcmp, v_i2l, v_l2i, v_i2c, v_dup, v_dup2, v_if_eq, v_if_ne, v_if_lt, v_if_ge, v_if_gt, v_if_le, v_ic_eq, v_ic_ne, v_ic_lt, v_ic_ge, v_ic_gt, v_ic_le, v_goto, v_tsw, v_lsw, v_ireturn, v_areturn, v_return, v_iaload, v_laload, v_baload, v_caload, v_aaload, v_iastore, v_lastore, v_bastore, v_castore, v_alen, v_invvi, v_invst, v_invsp, e_int, e_lng, e_ref, e_lg0, e_lg1, e_lg2, e_lg3, e_lg4, e_lg5, e_lg6, e_lg7, e_lg8, e_lg9, e_lg10, e_lg11, e_lg12, e_lg13, e_clrI, e_clrJ, e_clrP, e_clrN, e_s0, e_s1, e_s2, e_s3, e_s4, e_s5, e_s6, e_s7, e_s8, e_s9, e_s10, e_s11, e_s12, e_s13, e_t0, e_t1, e_t2, e_t3, e_t4, e_t5, e_t6, e_t7, e_t8, e_t9, e_t10, e_t11, e_t12, e_t13, e_fd, e_kk, e_k0, e_k1, e_k2, e_k3, e_k4, e_k5, e_k6, e_k7, e_k8, e_k9, e_sv0, e_sv1, e_sv2, e_sv3, e_svc, e_pf0, e_pf1, e_pf2, e_pf3, e_ar, e_aa, e_al, e_sw1, e_sw2, e_ct0, e_ct1, e_ct2, e_cat0, e_cat1, e_rk0, e_rk1, e_rk2, e_inv0, e_inv1, e_inv2, e_inv3, e_inv4, e_inv5, e_inv6, e_o0, e_o1, e_cl, e_cle, e_cg, e_cge, e_ce, e_cr1, e_cr2, e_r, e_R, e_up, Int.cast_ofNat_Int, u_app, false_and, and_false, e_b0, e_b1, e_bn, e_bl, e_bu, Int.reduceLE, Int.reduceLT, Int.reduceEq, Int.reduceNeg, Int.reduceAdd, Int.reduceSub, Int.reduceMul, Nat.reduceLeDiff, Nat.reduceLT, Nat.reduceAdd, Nat.reduceEqDiff, true_and, and_true, true_or, or_true, false_or, or_false, forall_const, not_true_eq_false, not_false_eq_true, true_implies, false_implies, implies_true, and_self, zero_ne_one, one_ne_zero, eq_self, reduceIte, s_X1_zones_0, b_X1_zones_0, s_X1_zones_4, b_X1_zones_4, s_X1_zones_12, b_X1_zones_12, s_X1_zones_27, b_X1_zones_27, s_X1_zones_31, b_X1_zones_31, s_X1_zones_32, b_X1_zones_32, s_X1_zones_46, b_X1_zones_46, s_X1_zones_50, b_X1_zones_50, s_X1_zones_58, b_X1_zones_58, s_X1_zones_68, b_X1_zones_68, s_X1_zones_93, b_X1_zones_93, s_X1_zones_99, b_X1_zones_99, g_X1_25, g_X1_12, ld_X1_100, G_X1_zones_133, sp_X1_tallyZone_e, G_X1_zones_130, sp_X6_answer_e, G_X1_zones_137, sp_X1_fillZone_e]
    refine hk ν ⟨fun c j _ n2 n3 => i1 c j n2 n3, i2, fun j j0 j1 => ?_⟩
    obtain ⟨q1, q2⟩ := i3 j j0 (by omega)
    rcases q2 with q | q
    · exact Or.inl ⟨q.1, q.2, q1⟩
    · exact Or.inr (Or.inr ⟨q.1, q.2, fun z z0 z1 => by omega⟩)
  | succ d ih =>
    intro p ν h1 h2 i1 i2 i3
    have eb : ν b p = μ b p := i1 b p (by omega) hnb
    have v1 := (hv p h1 (by omega)).2
    have st : ∀ z : Int, (z = 1 ∧ μ b p = -2000000000) ∨ (z = 0 ∧ ¬ μ b p = -2000000000) → S 4 [some (.inr (.inr 34)), some (.inl how), some (.inr (.inr a)), some (.inr (.inr b)), some (.inr (.inr out)), some (.inl (p + 1))] [] (q_up (q_up ν 38 p z) out p (-2000000000)) := fun z hz => by
      refine ih (p + 1) _ (by omega) (by omega) (fun c j n1 n2 => ?_) (fun j hj => ?_) (fun j j0 j1 => ?_)
      · rw [u_app, if_neg (by omega), u_app, if_neg (by omega)]
        exact i1 c j n1 n2
      · rw [u_app, if_neg (by omega), u_app, if_neg (by omega)]
        exact i2 j hj
      · by_cases c : j = p
        · rw [c]
          refine ⟨by rw [u_app, if_pos ⟨rfl, rfl⟩], ?_⟩
          rw [u_app, if_neg (by omega), u_app, if_pos ⟨rfl, rfl⟩]
          exact hz
        · rw [u_app, if_neg (by omega), u_app, if_neg (by omega), u_app, if_neg (by omega), u_app, if_neg (by omega)]
          exact i3 j j0 (by omega)
    refine hR 60 b_X1_zones_4 4 _ _ _ o_X1_zones_4 ?_
    simp only [v_opt_n, v_opt_s, v_nil, v_iconst, v_bipush, v_sipush, v_lconst0, v_lconst1, v_ldc, v_ldcw, v_ldc2, v_iload0, v_iload1, v_iload2, v_iload3, v_iload, v_lload0, v_lload1, v_lload2, v_lload3, v_lload, v_aload0, v_aload1, v_aload2, v_aload3, v_aload, v_istore0, v_istore1, v_istore2, v_istore3, v_istore, v_lstore0, v_lstore1, v_lstore2, v_lstore3, v_lstore, v_astore0, v_astore1, v_astore2, v_astore3, v_astore, v_iinc, v_iadd, v_isub, v_imul, v_iand, v_ior, v_ixor, v_ishl, v_ishr, v_iushr, v_ineg, v_idiv, v_irem, v_ladd, v_lsub, v_lmul, v_lcmp, v_i2l, v_l2i, v_i2c, v_dup, v_dup2, v_if_eq, v_if_ne, v_if_lt, v_if_ge, v_if_gt, v_if_le, v_ic_eq, v_ic_ne, v_ic_lt, v_ic_ge, v_ic_gt, v_ic_le, v_goto, v_tsw, v_lsw, v_ireturn, v_areturn, v_return, v_iaload, v_laload, v_baload, v_caload, v_aaload, v_iastore, v_lastore, v_bastore, v_castore, v_alen, v_invvi, v_invst, v_invsp, e_int, e_lng, e_ref, e_lg0, e_lg1, e_lg2, e_lg3, e_lg4, e_lg5, e_lg6, e_lg7, e_lg8, e_lg9, e_lg10, e_lg11, e_lg12, e_lg13, e_clrI, e_clrJ, e_clrP, e_clrN, e_s0, e_s1, e_s2, e_s3, e_s4, e_s5, e_s6, e_s7, e_s8, e_s9, e_s10, e_s11, e_s12, e_s13, e_t0, e_t1, e_t2, e_t3, e_t4, e_t5, e_t6, e_t7, e_t8, e_t9, e_t10, e_t11, e_t12, e_t13, e_fd, e_kk, e_k0, e_k1, e_k2, e_k3, e_k4, e_k5, e_k6, e_k7, e_k8, e_k9, e_sv0, e_sv1, e_sv2, e_sv3, e_svc, e_pf0, e_pf1, e_pf2, e_pf3, e_ar, e_aa, e_al, e_sw1, e_sw2, e_ct0, e_ct1, e_ct2, e_cat0, e_cat1, e_rk0, e_rk1, e_rk2, e_inv0, e_inv1, e_inv2, e_inv3, e_inv4, e_inv5, e_inv6, e_o0, e_o1, e_cl, e_cle, e_cg, e_cge, e_ce, e_cr1, e_cr2, e_r, e_R, e_up, Int.cast_ofNat_Int, u_app, false_and, and_false, e_b0, e_b1, e_bn, e_bl, e_bu, Int.reduceLE, Int.reduceLT, Int.reduceEq, Int.reduceNeg, Int.reduceAdd, Int.reduceSub, Int.reduceMul, Nat.reduceLeDiff, Nat.reduceLT, Nat.reduceAdd, Nat.reduceEqDiff, true_and, and_true, true_or, or_true, false_or, or_false, forall_const, not_true_eq_false, not_false_eq_true, true_implies, false_implies, implies_true, and_self, zero_ne_one, one_ne_zero, eq_self, reduceIte, s_X1_zones_0, b_X1_zones_0, s_X1_zones_4, b_X1_zones_4, s_X1_zones_12, b_X1_zones_12, s_X1_zones_27, b_X1_zones_27, s_X1_zones_31, b_X1_zones_31, s_X1_zones_32, b_X1_zones_32, s_X1_zones_46, b_X1_zones_46, s_X1_zones_50, b_X1_zones_50, s_X1_zones_58, b_X1_zones_58, s_X1_zones_68, b_X1_zones_68, s_X1_zones_93, b_X1_zones_93, s_X1_zones_99, b_X1_zones_99, g_X1_25, g_X1_12, ld_X1_100, G_X1_zones_133, sp_X1_tallyZone_e, G_X1_zones_130, sp_X6_answer_e, G_X1_zones_137, sp_X1_fillZone_e, T_38, hTb, hTo, eb]
    exact ⟨by omega, fun c => by omega, fun c => ⟨by omega, by omega, by omega, by omega, fun c1 => ⟨by omega, by omega, by omega, by omega, by omega, st 0 (Or.inr ⟨rfl, c1⟩)⟩, fun c1 => ⟨by omega, by omega, by omega, by omega, by omega, st 1 (Or.inl ⟨rfl, c1⟩)⟩⟩⟩
set_option maxRecDepth 100000 in
set_option maxHeartbeats 4000000 in
theorem B_X1_zones : q_Body cX1_zones 6 u_X1_zones fl_X1 ld_X1 G_X1_zones q_T 4 s_X1_zones sp_X1_zones := by
  intro S Rt hR ra μ h
  obtain ⟨this, how, a, b, out, rfl, h⟩ := sp_X1_zones_i h
  refine ⟨by simp [q_sl, q_ct], ?_⟩
  show S 0 [some (.inr (.inr this)), some (.inl how), some (.inr (.inr a)), some (.inr (.inr b)), some (.inr (.inr out)), none] [] μ
  obtain ⟨rfl, hhow, ha, hb, ho, hna, hnb, hv, hk⟩ := h
  refine hR 40 [] 0 _ _ _ rfl ?_
  simp only [v_opt_n, v_opt_s, v_nil, v_iconst, v_bipush, v_sipush, v_lconst0, v_lconst1, v_ldc, v_ldcw, v_ldc2, v_iload0, v_iload1, v_iload2, v_iload3, v_iload, v_lload0, v_lload1, v_lload2, v_lload3, v_lload, v_aload0, v_aload1, v_aload2, v_aload3, v_aload, v_istore0, v_istore1, v_istore2, v_istore3, v_istore, v_lstore0, v_lstore1, v_lstore2, v_lstore3, v_lstore, v_astore0, v_astore1, v_astore2, v_astore3, v_astore, v_iinc, v_iadd, v_isub, v_imul, v_iand, v_ior, v_ixor, v_ishl, v_ishr, v_iushr, v_ineg, v_idiv, v_irem, v_ladd, v_lsub, v_lmul, v_lcmp, v_i2l, v_l2i, v_i2c, v_dup, v_dup2, v_if_eq, v_if_ne, v_if_lt, v_if_ge, v_if_gt, v_if_le, v_ic_eq, v_ic_ne, v_ic_lt, v_ic_ge, v_ic_gt, v_ic_le, v_goto, v_tsw, v_lsw, v_ireturn, v_areturn, v_return, v_iaload, v_laload, v_baload, v_caload, v_aaload, v_iastore, v_lastore, v_bastore, v_castore, v_alen, v_invvi, v_invst, v_invsp, e_int, e_lng, e_ref, e_lg0, e_lg1, e_lg2, e_lg3, e_lg4, e_lg5, e_lg6, e_lg7, e_lg8, e_lg9, e_lg10, e_lg11, e_lg12, e_lg13, e_clrI, e_clrJ, e_clrP, e_clrN, e_s0, e_s1, e_s2, e_s3, e_s4, e_s5, e_s6, e_s7, e_s8, e_s9, e_s10, e_s11, e_s12, e_s13, e_t0, e_t1, e_t2, e_t3, e_t4, e_t5, e_t6, e_t7, e_t8, e_t9, e_t10, e_t11, e_t12, e_t13, e_fd, e_kk, e_k0, e_k1, e_k2, e_k3, e_k4, e_k5, e_k6, e_k7, e_k8, e_k9, e_sv0, e_sv1, e_sv2, e_sv3, e_svc, e_pf0, e_pf1, e_pf2, e_pf3, e_ar, e_aa, e_al, e_sw1, e_sw2, e_ct0, e_ct1, e_ct2, e_cat0, e_cat1, e_rk0, e_rk1, e_rk2, e_inv0, e_inv1, e_inv2, e_inv3, e_inv4, e_inv5, e_inv6, e_o0, e_o1, e_cl, e_cle, e_cg, e_cge, e_ce, e_cr1, e_cr2, e_r, e_R, e_up, Int.cast_ofNat_Int, u_app, false_and, and_false, e_b0, e_b1, e_bn, e_bl, e_bu, Int.reduceLE, Int.reduceLT, Int.reduceEq, Int.reduceNeg, Int.reduceAdd, Int.reduceSub, Int.reduceMul, Nat.reduceLeDiff, Nat.reduceLT, Nat.reduceAdd, Nat.reduceEqDiff, true_and, and_true, true_or, or_true, false_or, or_false, forall_const, not_true_eq_false, not_false_eq_true, true_implies, false_implies, implies_true, and_self, zero_ne_one, one_ne_zero, eq_self, reduceIte, s_X1_zones_0, b_X1_zones_0, s_X1_zones_4, b_X1_zones_4, s_X1_zones_12, b_X1_zones_12, s_X1_zones_27, b_X1_zones_27, s_X1_zones_31, b_X1_zones_31, s_X1_zones_32, b_X1_zones_32, s_X1_zones_46, b_X1_zones_46, s_X1_zones_50, b_X1_zones_50, s_X1_zones_58, b_X1_zones_58, s_X1_zones_68, b_X1_zones_68, s_X1_zones_93, b_X1_zones_93, s_X1_zones_99, b_X1_zones_99, g_X1_25, g_X1_12, ld_X1_100, G_X1_zones_133, sp_X1_tallyZone_e, G_X1_zones_130, sp_X6_answer_e, G_X1_zones_137, sp_X1_fillZone_e]
  refine zo_4 hR hb ho hnb hv (fun ν hi => zo_50 hR hhow ha hb ho hna hnb hv (fun ν hi => hk ν hi.1 (fun j => ?_)) 166 15 ν (by omega) (by omega) hi) 166 15 μ (by omega) (by omega) (fun _ _ _ _ => rfl) (fun _ _ => rfl) (fun j j0 j1 => by omega)
  by_cases c : 15 ≤ j ∧ j ≤ 180
  · rw [if_pos c]
    rcases hi.2.2 j c.1 c.2 with q | ⟨q1, q2, q3, q4⟩ | ⟨q1, q2, q3⟩
    · rw [if_pos q.2.1]
      exact q.2.2
    · rw [if_neg q2]
      exact q4
    · exact absurd rfl (q3 j c.1 (by omega))
  · rw [if_neg c]
    exact hi.2.1 j c
set_option maxRecDepth 100000 in
theorem C_X1_zones {l : Launch} {ad : Int → Nat} {D : va_G} {cy : Nat → ClassId} {Z : State → Prop} (hZ : q_Zg ad Z) : q_Ct l q_T q_N ad D cy Z yX1_zones cX1_zones 6 none rm_X1_zones sp_X1_zones := by
  obtain ⟨hf, hg, hld⟩ := q_chkS k_X1_zones
  refine q_met (rk := 4) q_wokT (by decide) rfl hf hg hld rfl (q_skS L_X1_zones o_X1_zones) ?_ ?_ ?_ ?_ B_X1_zones
  · intro i hi; exact absurd hi List.not_mem_nil
  · intro i hi
    have hi : i = 133 ∨ i = 130 ∨ i = 137 := by simpa [u_X1_zones] using hi
    rcases hi with rfl | rfl | rfl
    · exact q_crV hZ.1 (C_X1_tallyZone hZ) rv_X1_tallyZone cm_X1_tallyZone (by decide +kernel) (by decide +kernel) (by decide +kernel) (by decide +kernel) (by decide +kernel) ⟨rfl, rfl⟩ (by decide)
    · exact q_crV hZ.1 (C_X6_answer hZ) rv_X6_answer cm_X6_answer (by decide +kernel) (by decide +kernel) (by decide +kernel) (by decide +kernel) (by decide +kernel) ⟨rfl, rfl⟩ (by decide)
    · exact q_crV hZ.1 (C_X1_fillZone hZ) rv_X1_fillZone cm_X1_fillZone (by decide +kernel) (by decide +kernel) (by decide +kernel) (by decide +kernel) (by decide +kernel) ⟨rfl, rfl⟩ (by decide)
  · intro i hi; exact absurd hi List.not_mem_nil
  · intro i hi; exact absurd hi List.not_mem_nil
theorem rv_X1_zones : q_rcv q_T yX1_zones.cls sp_X1_zones := by
  intro ra μ K h
  obtain ⟨this, how, a, b, out, rfl, h⟩ := sp_X1_zones_i h
  obtain rfl := h.1
  exact ⟨[.inr (.inr out), .inr (.inr b), .inr (.inr a), .inl how], 34, 1, _, _, rfl, T_34, rfl, rfl⟩
theorem cm_X1_zones : Cond.code yX1_zones cX1_zones 6 none ∈ q_tb := by decide +kernel

