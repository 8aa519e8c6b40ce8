/-! the reference: cell -/
abbrev m_ofM (μ : QM) : Int → Int → Int := fun b k => μ 92 (3 * b + k)
abbrev m_shM (μ : QM) : Int → Int → Int → Int := fun s x y => μ 86 (144 * s + 12 * y + x)
noncomputable abbrev m_VM (μ : QM) : Nat → Int → Int → Int → Int := m_V (μ 85 2) (μ 85 3) (μ 89) (μ 90) (μ 91) (m_ofM μ) (m_shM μ)
/-- the fresh tiles once the first i were looked at, and how many were made -/
def m_cf (μ : QM) (nd : Int → Int) (i : Int) : Int → Int := fun j => if 0 ≤ j ∧ j < i ∧ q_bit (nd (j / 9)) (j % 9).toNat = true then 1 else μ 94 j
def m_cc (μ : QM) (nd : Int → Int) : Nat → Int
  | 0 => 0
  | i + 1 => m_cc μ nd i + (if q_bit (nd ((i : Int) / 9)) ((i : Int) % 9).toNat = true ∧ μ 94 (i : Int) = 0 then 1 else 0)
/-- what cell leaves as it was -/
def m_cfr (μ ν : QM) : Prop := ∀ a j : Int, ¬ (a = 85 ∧ (j = 0 ∨ j = 14 ∨ (17 ≤ j ∧ j ≤ 20))) → ¬ (a = 94 ∧ 0 ≤ j ∧ j < 90) → ¬ a = 95 → ¬ a = 96 → ¬ a = 97 → ¬ a = 98 → ν a j = μ a j
/-- the reference's boards are in order -/
def m_bok (μ : QM) : Prop := m_dim (μ 85 2) (μ 85 3) ∧ (0 ≤ μ 85 7 ∧ μ 85 7 ≤ 10) ∧ (∀ b : Int, 0 ≤ b → b < μ 85 7 → m_rb μ b ∧ (μ 89 b = 9 → m_vr (μ 91 b))) ∧ (∀ s u v : Int, 0 ≤ s → s ≤ 3 → m_in (μ 85 2) (μ 85 3) u v → m_vr (μ 86 (144 * s + 12 * v + u)))
theorem m_mn_b (k : Int) : 0 ≤ m_mn k ∧ m_mn k ≤ 3 := by
  unfold m_mn
  (repeat' split) <;> omega
theorem m_bok_rok {μ : QM} (h : m_bok μ) {n : Int} (hn : n ≤ μ 85 7) : m_rok (μ 89) (μ 91) (μ 93) (m_ofM μ) n := by
  intro b b0 b1
  obtain ⟨⟨r1, r2, r3, r4, r5, r6, r7⟩, -⟩ := h.2.2.1 b b0 (by omega)
  have := m_mn_b (μ 89 b)
  refine ⟨r1, by omega, r3, r4, fun e => ⟨by rw [r2, e]; rfl, r5 e⟩, r6⟩
/-- all values are values, or gaps -/
theorem m_V_vr {μ : QM} (h : m_bok μ) : ∀ (n : Nat), (n : Int) ≤ μ 85 7 → ∀ b x y : Int, 0 ≤ b → b < n → m_in (μ 85 2) (μ 85 3) x y → m_vr (m_VM μ n b x y)
  | 0, _, b, x, y, b0, b1, _ => by omega
  | n + 1, hn, b, x, y, b0, b1, q => by
    have ih := m_V_vr h n (by omega)
    show m_vr (if b = (n : Int) then _ else _)
    split
    · obtain ⟨⟨r1, r2, r3, r4, r5, r6, r7⟩, r8⟩ := h.2.2.1 n (by omega) (by omega)
      have ho : ∀ k : Int, 0 ≤ k → k < m_mn (μ 89 n) → 0 ≤ μ 92 (3 * n + k) ∧ μ 92 (3 * n + k) < n := fun k k0 k1 => r3 k k0 (by omega)
      refine m_val_vr h.1 q r8 r4 (fun c u v q => h.2.2.2 _ u v (r5 c).1 (r5 c).2 q) (fun c u v q => ?_) (fun c0 c9 c10 c12 u v q => ?_) (fun c u v q => ?_)
      · have := ho 0 (by omega) (by unfold m_mn; (repeat' split) <;> omega)
        exact ih _ u v this.1 this.2 q
      · have := ho 1 (by omega) (by unfold m_mn; (repeat' split) <;> omega)
        exact ih _ u v this.1 this.2 q
      · have := ho 2 (by omega) (by unfold m_mn; (repeat' split) <;> omega)
        exact ih _ u v this.1 this.2 q
    · exact ih b x y b0 (by omega) q
def sp_X11_cell : QP := fun ra μ K => match ra with
  | [.inl y, .inl x, .inl board, .inr (.inr this)] => this = 85 ∧ (q_r board ∧ q_r x ∧ q_r y) ∧ m_bok μ ∧ (∀ j : Int, μ 94 j = 0 ∨ μ 94 j = 1) ∧ (if (0 ≤ board ∧ board < μ 85 7) ∧ m_in (μ 85 2) (μ 85 3) x y then (∀ ν : QM, m_cfr μ ν → (∀ j : Int, 0 ≤ j → j < 90 → ν 94 j = m_cf μ (m_nd (μ 85 2) (μ 85 3) (μ 89) (μ 93) (m_ofM μ) board (y / 4 * 3 + x / 4)) (9 * (board + 1)) j) → ν 85 14 = μ 85 14 + m_cc μ (m_nd (μ 85 2) (μ 85 3) (μ 89) (μ 93) (m_ofM μ) board (y / 4 * 3 + x / 4)) (9 * (board + 1)).toNat → K (some (.inl (m_VM μ (board + 1).toNat board x y))) ν) else K (some (.inl (-2000000000))) (q_up μ 85 0 0))
  | _ => False
theorem sp_X11_cell_e (this board x y : Int) (μ : QM) (K : Option QV → QM → Prop) : sp_X11_cell [.inl y, .inl x, .inl board, .inr (.inr this)] μ K = (this = 85 ∧ (q_r board ∧ q_r x ∧ q_r y) ∧ m_bok μ ∧ (∀ j : Int, μ 94 j = 0 ∨ μ 94 j = 1) ∧ (if (0 ≤ board ∧ board < μ 85 7) ∧ m_in (μ 85 2) (μ 85 3) x y then (∀ ν : QM, m_cfr μ ν → (∀ j : Int, 0 ≤ j → j < 90 → ν 94 j = m_cf μ (m_nd (μ 85 2) (μ 85 3) (μ 89) (μ 93) (m_ofM μ) board (y / 4 * 3 + x / 4)) (9 * (board + 1)) j) → ν 85 14 = μ 85 14 + m_cc μ (m_nd (μ 85 2) (μ 85 3) (μ 89) (μ 93) (m_ofM μ) board (y / 4 * 3 + x / 4)) (9 * (board + 1)).toNat → K (some (.inl (m_VM μ (board + 1).toNat board x y))) ν) else K (some (.inl (-2000000000))) (q_up μ 85 0 0))) := propext Iff.rfl
theorem sp_X11_cell_i {ra : List QV} {μ : QM} {K : Option QV → QM → Prop} (h : sp_X11_cell ra μ K) : ∃ this board x y : Int, ra = [.inl y, .inl x, .inl board, .inr (.inr this)] ∧ (this = 85 ∧ (q_r board ∧ q_r x ∧ q_r y) ∧ m_bok μ ∧ (∀ j : Int, μ 94 j = 0 ∨ μ 94 j = 1) ∧ (if (0 ≤ board ∧ board < μ 85 7) ∧ m_in (μ 85 2) (μ 85 3) x y then (∀ ν : QM, m_cfr μ ν → (∀ j : Int, 0 ≤ j → j < 90 → ν 94 j = m_cf μ (m_nd (μ 85 2) (μ 85 3) (μ 89) (μ 93) (m_ofM μ) board (y / 4 * 3 + x / 4)) (9 * (board + 1)) j) → ν 85 14 = μ 85 14 + m_cc μ (m_nd (μ 85 2) (μ 85 3) (μ 89) (μ 93) (m_ofM μ) board (y / 4 * 3 + x / 4)) (9 * (board + 1)).toNat → K (some (.inl (m_VM μ (board + 1).toNat board x y))) ν) else K (some (.inl (-2000000000))) (q_up μ 85 0 0))) := by
  unfold sp_X11_cell at h
  split at h
  · exact ⟨_, _, _, _, rfl, h⟩
  · exact h.elim
def rm_X11_cell : Room := { frames := 5, cells := 0, slots := 0, locals := 123 }
def G_X11_cell : Nat → Nat × QP := fun i => match i with
  | 149 => (2, sp_X11_isBoard)
  | 113 => (3, sp_X11_isCell)
  | 145 => (3, sp_X11_findNeeds)
  | 215 => (2, sp_X11_workOut)
  | 189 => (4, sp_X11_at)
  | 121 => (2, sp_X11_tileOf)
  | _ => (0, fun _ _ _ => False)
theorem G_X11_cell_149 : G_X11_cell 149 = (2, sp_X11_isBoard) := id rfl
theorem G_X11_cell_113 : G_X11_cell 113 = (3, sp_X11_isCell) := id rfl
theorem G_X11_cell_145 : G_X11_cell 145 = (3, sp_X11_findNeeds) := id rfl
theorem G_X11_cell_215 : G_X11_cell 215 = (2, sp_X11_workOut) := id rfl
theorem G_X11_cell_189 : G_X11_cell 189 = (4, sp_X11_at) := id rfl
theorem G_X11_cell_121 : G_X11_cell 121 = (2, sp_X11_tileOf) := id rfl
/-- memory while tiles are marked -/
def m_cm (μ : QM) (nd F : Int → Int) (c : Int) : QM := fun a j => if a = 85 ∧ j = 0 then 0 else if a = 85 ∧ j = 14 then c else if a = 95 ∧ 0 ≤ j ∧ j < 10 then nd j else if a = 94 ∧ 0 ≤ j ∧ j < 90 then F j else μ a j
theorem u_cm (μ : QM) (nd F : Int → Int) (c a j : Int) : m_cm μ nd F c a j = if a = 85 ∧ j = 0 then 0 else if a = 85 ∧ j = 14 then c else if a = 95 ∧ 0 ≤ j ∧ j < 10 then nd j else if a = 94 ∧ 0 ≤ j ∧ j < 90 then F j else μ a j := id rfl
theorem m_cm_0 {μ : QM} {nd : Int → Int} : q_blk (q_up μ 85 0 0) 95 10 nd = m_cm μ nd (μ 94) (μ 85 14) := by
  funext a j
  simp only [u_blk, u_app, u_cm]
  by_cases c1 : a = 85 ∧ j = 0
  · simp [c1]
  · by_cases c2 : a = 85 ∧ j = 14
    · simp [c2]
    · by_cases c3 : a = 95 ∧ 0 ≤ j ∧ j < 10
      · simp [c3]
      · by_cases c4 : a = 94 ∧ 0 ≤ j ∧ j < 90
        · simp [c4]
        · simp only [c1, c2, c3, c4, if_false]
theorem m_cm_up {μ : QM} {nd F : Int → Int} {c i v : Int} (hi : 0 ≤ i ∧ i < 90) : q_up (q_up (m_cm μ nd F c) 94 i v) 85 14 (c + 1) = m_cm μ nd (fun j => if j = i then v else F j) (c + 1) := by
  funext a j
  simp only [u_app, u_cm]
  by_cases c1 : a = 85 ∧ j = 0
  · simp [c1]
  · by_cases c2 : a = 85 ∧ j = 14
    · simp [c2]
    · by_cases c3 : a = 94 ∧ j = i
      · simp [c3, hi]
      · by_cases c4 : a = 95 ∧ 0 ≤ j ∧ j < 10
        · simp [c4]
        · by_cases c5 : a = 94 ∧ 0 ≤ j ∧ j < 90
          · have : ¬ j = i := fun q => c3 ⟨c5.1, q⟩
            simp [c5, this]
          · simp only [c1, c2, c3, c4, c5, if_false]
set_option maxRecDepth 100000 in
set_option maxHeartbeats 4000000 in
theorem cell_t {Rt : Option QV → QM → Prop} {S : Nat → QL → List QV → QM → Prop} (hR : q_Rule cX11_cell 7 u_X11_cell fl_X11 ld_X11 G_X11_cell q_T 0 s_X11_cell Rt S) {μ : QM} {nd : Int → Int} {B x y t0 b : Int} (hB : 0 ≤ B ∧ B < 10) (hnd : ∀ j : Int, q_mk (nd j)) (hf : ∀ j : Int, μ 94 j = 0 ∨ μ 94 j = 1) (hb : 0 ≤ b ∧ b ≤ B) (hk : ∀ l6 : Option QV, S 42 [some (.inr (.inr 85)), some (.inl B), some (.inl x), some (.inl y), some (.inl t0), some (.inl (b + 1)), l6] [] (m_cm μ nd (m_cf μ nd (9 * (b + 1))) (μ 85 14 + m_cc μ nd (9 * (b + 1)).toNat))) :
    ∀ (d : Nat) (t : Int), 0 ≤ t → t + d = 9 → S 51 [some (.inr (.inr 85)), some (.inl B), some (.inl x), some (.inl y), some (.inl t0), some (.inl b), some (.inl t)] [] (m_cm μ nd (m_cf μ nd (9 * b + t)) (μ 85 14 + m_cc μ nd (9 * b + t).toNat)) := by
  intro d
  induction d with
  | zero =>
    intro t h1 h2
    obtain rfl : t = 9 := by omega
    rw [show 9 * b + 9 = 9 * (b + 1) by omega]
    refine hR 80 b_X11_cell_51 51 _ _ _ o_X11_cell_51 ?_
    simp only [v_opt_n, v_opt_s, v_nil, v_iconst, v_bipush, v_sipush, v_lconst0, v_lconst1, v_ldc, v_ldcw, v_ldc2, v_iload0, v_iload1, v_iload2, v_iload3, v_iload, v_lload0, v_lload1, v_lload2, v_lload3, v_lload, v_aload0, v_aload1, v_aload2, v_aload3, v_aload, v_istore0, v_istore1, v_istore2, v_istore3, v_istore, v_lstore0, v_lstore1, v_lstore2, v_lstore3, v_lstore, v_astore0, v_astore1, v_astore2, v_astore3, v_astore, v_iinc, v_iadd, v_isub, v_imul, v_iand, v_ior, v_ixor, v_ishl, v_ishr, v_iushr, v_ineg, v_idiv, v_irem, v_ladd, v_lsub, v_lmul, v_lcmp, v_i2l, v_l2i, v_i2c, v_dup, v_dup2, v_if_eq, v_if_ne, v_if_lt, v_if_ge, v_if_gt, v_if_le, v_ic_eq, v_ic_ne, v_ic_lt, v_ic_ge, v_ic_gt, v_ic_le, v_goto, v_tsw, v_lsw, v_ireturn, v_areturn, v_return, v_iaload, v_laload, v_baload, v_caload, v_aaload, v_iastore, v_lastore, v_bastore, v_castore, v_alen, v_invvi, v_invst, v_invsp, e_int, e_lng, e_ref, e_lg0, e_lg1, e_lg2, e_lg3, e_lg4, e_lg5, e_lg6, e_lg7, e_lg8, e_lg9, e_lg10, e_lg11, e_lg12, e_lg13, e_clrI, e_clrJ, e_clrP, e_clrN, e_s0, e_s1, e_s2, e_s3, e_s4, e_s5, e_s6, e_s7, e_s8, e_s9, e_s10, e_s11, e_s12, e_s13, e_t0, e_t1, e_t2, e_t3, e_t4, e_t5, e_t6, e_t7, e_t8, e_t9, e_t10, e_t11, e_t12, e_t13, e_fd, e_kk, e_k0, e_k1, e_k2, e_k3, e_k4, e_k5, e_k6, e_k7, e_k8, e_k9, e_sv0, e_sv1, e_sv2, e_sv3, e_svc, e_pf0, e_pf1, e_pf2, e_pf3, e_ar, e_aa, e_al, e_sw1, e_sw2, e_ct0, e_ct1, e_ct2, e_cat0, e_cat1, e_rk0, e_rk1, e_rk2, e_inv0, e_inv1, e_inv2, e_inv3, e_inv4, e_inv5, e_inv6, e_o0, e_o1, e_cl, e_cle, e_cg, e_cge, e_ce, e_cr1, e_cr2, e_r, e_R, e_up, Int.cast_ofNat_Int, u_app, false_and, and_false, e_b0, e_b1, e_bn, e_bl, e_bu, Int.reduceLE, Int.reduceLT, Int.reduceEq, Int.reduceNeg, Int.reduceAdd, Int.reduceSub, Int.reduceMul, Nat.reduceLeDiff, Nat.reduceLT, Nat.reduceAdd, Nat.reduceEqDiff, true_and, and_true, true_or, or_true, false_or, or_false, forall_const, not_true_eq_false, not_false_eq_true, true_implies, false_implies, implies_true, and_self, zero_ne_one, one_ne_zero, eq_self, reduceIte, s_X11_cell_0, b_X11_cell_0, s_X11_cell_13, b_X11_cell_13, s_X11_cell_22, b_X11_cell_22, s_X11_cell_25, b_X11_cell_25, s_X11_cell_42, b_X11_cell_42, s_X11_cell_48, b_X11_cell_48, s_X11_cell_51, b_X11_cell_51, s_X11_cell_58, b_X11_cell_58, s_X11_cell_74, b_X11_cell_74, s_X11_cell_90, b_X11_cell_90, s_X11_cell_114, b_X11_cell_114, s_X11_cell_120, b_X11_cell_120, s_X11_cell_126, b_X11_cell_126, s_X11_cell_129, b_X11_cell_129, s_X11_cell_135, b_X11_cell_135, s_X11_cell_147, b_X11_cell_147, g_X11_85, p_X11_85, g_X11_45, g_X11_42, g_X11_152, p_X11_152, ld_X11_91, G_X11_cell_149, sp_X11_isBoard_e, G_X11_cell_113, sp_X11_isCell_e, G_X11_cell_145, sp_X11_findNeeds_e, G_X11_cell_215, sp_X11_workOut_e, G_X11_cell_189, sp_X11_at_e, G_X11_cell_121, sp_X11_tileOf_e]
    exact hk _
  | succ d ih =>
    intro t h1 h2
    have ih := ih (t + 1) (by omega) (by omega)
    have h0 := q_mk_nn (hnd b)
    have hu := q_mk_le (hnd b)
    have hbt := bt_get (a := nd b) (k := t) h0 hu h1 (by omega)
    have d1 : (9 * b + t) / 9 = b := by omega
    have d2 : (9 * b + t) % 9 = t := by omega
    have dn : ((9 * b + t).toNat : Int) = 9 * b + t := by omega
    have e95 : ∀ F c, m_cm μ nd F c 95 b = nd b := fun F c => by
      simp only [u_cm, Int.reduceEq, false_and, if_false, true_and]
      rw [if_pos (by omega)]
    have e94 : ∀ F c, m_cm μ nd F c 94 (9 * b + t) = F (9 * b + t) := fun F c => by
      simp only [u_cm, Int.reduceEq, false_and, if_false, true_and]
      rw [if_pos (by omega)]
    have hF : m_cf μ nd (9 * b + t) (9 * b + t) = μ 94 (9 * b + t) := by
      unfold m_cf
      rw [if_neg (by omega)]
    have hf9 := hf (9 * b + t)
    have e14 : ∀ F c, m_cm μ nd F c 85 14 = c := fun F c => by
      simp only [u_cm, Int.reduceEq, and_false, if_false, and_self, if_true]
    have eUp : ∀ F c, q_up (q_up (m_cm μ nd F c) 94 (9 * b + t) 1) 85 14 (c + 1) = m_cm μ nd (fun j => if j = 9 * b + t then 1 else F j) (c + 1) := fun F c => m_cm_up (by omega)
    have ecc : m_cc μ nd (9 * b + (t + 1)).toNat = m_cc μ nd (9 * b + t).toNat + (if q_bit (nd b) t.toNat = true ∧ μ 94 (9 * b + t) = 0 then 1 else 0) := by
      rw [show (9 * b + (t + 1)).toNat = (9 * b + t).toNat + 1 by omega]
      show m_cc μ nd (9 * b + t).toNat + (if q_bit (nd (((9 * b + t).toNat : Int) / 9)) (((9 * b + t).toNat : Int) % 9).toNat = true ∧ μ 94 ((9 * b + t).toNat : Int) = 0 then 1 else 0) = _
      rw [dn, d1, d2]
    have ecf : ∀ v : Int, v = (if q_bit (nd b) t.toNat = true then 1 else μ 94 (9 * b + t)) → (fun j => if j = 9 * b + t then v else m_cf μ nd (9 * b + t) j) = m_cf μ nd (9 * b + (t + 1)) := by
      intro v ev
      funext j
      unfold m_cf
      by_cases c : j = 9 * b + t
      · subst c
        rw [if_pos rfl, ev, d1, d2]
        by_cases c2 : q_bit (nd b) t.toNat = true
        · rw [if_pos c2, if_pos ⟨by omega, by omega, c2⟩]
        · rw [if_neg c2, if_neg (fun q => c2 q.2.2)]
      · rw [if_neg c]
        by_cases c2 : 0 ≤ j ∧ j < 9 * b + t ∧ q_bit (nd (j / 9)) (j % 9).toNat = true
        · rw [if_pos c2, if_pos ⟨c2.1, by omega, c2.2.2⟩]
        · rw [if_neg c2, if_neg (fun q => c2 ⟨q.1, by omega, q.2.2⟩)]
    have ecf0 : (if q_bit (nd b) t.toNat = true then 1 else μ 94 (9 * b + t)) = μ 94 (9 * b + t) → m_cf μ nd (9 * b + t) = m_cf μ nd (9 * b + (t + 1)) := by
      intro e
      rw [← ecf (μ 94 (9 * b + t)) e.symm]
      funext j
      by_cases c : j = 9 * b + t
      · rw [if_pos c, c, hF]
      · rw [if_neg c]
    refine hR 120 b_X11_cell_51 51 _ _ _ o_X11_cell_51 ?_
    simp only [v_opt_n, v_opt_s, v_nil, v_iconst, v_bipush, v_sipush, v_lconst0, v_lconst1, v_ldc, v_ldcw, v_ldc2, v_iload0, v_iload1, v_iload2, v_iload3, v_iload, v_lload0, v_lload1, v_lload2, v_lload3, v_lload, v_aload0, v_aload1, v_aload2, v_aload3, v_aload, v_istore0, v_istore1, v_istore2, v_istore3, v_istore, v_lstore0, v_lstore1, v_lstore2, v_lstore3, v_lstore, v_astore0, v_astore1, v_astore2, v_astore3, v_astore, v_iinc, v_iadd, v_isub, v_imul, v_iand, v_ior, v_ixor, v_ishl, v_ishr, v_iushr, v_ineg, v_idiv, v_irem, v_ladd, v_lsub, v_lmul, v_lcmp, v_i2l, v_l2i, v_i2c, v_dup, v_dup2, v_if_eq, v_if_ne, v_if_lt, v_if_ge, v_if_gt, v_if_le, v_ic_eq, v_ic_ne, v_ic_lt, v_ic_ge, v_ic_gt, v_ic_le, v_goto, v_tsw, v_lsw, v_ireturn, v_areturn, v_return, v_iaload, v_laload, v_baload, v_caload, v_aaload, v_iastore, v_lastore, v_bastore, v_castore, v_alen, v_invvi, v_invst, v_invsp, e_int, e_lng, e_ref, e_lg0, e_lg1, e_lg2, e_lg3, e_lg4, e_lg5, e_lg6, e_lg7, e_lg8, e_lg9, e_lg10, e_lg11, e_lg12, e_lg13, e_clrI, e_clrJ, e_clrP, e_clrN, e_s0, e_s1, e_s2, e_s3, e_s4, e_s5, e_s6, e_s7, e_s8, e_s9, e_s10, e_s11, e_s12, e_s13, e_t0, e_t1, e_t2, e_t3, e_t4, e_t5, e_t6, e_t7, e_t8, e_t9, e_t10, e_t11, e_t12, e_t13, e_fd, e_kk, e_k0, e_k1, e_k2, e_k3, e_k4, e_k5, e_k6, e_k7, e_k8, e_k9, e_sv0, e_sv1, e_sv2, e_sv3, e_svc, e_pf0, e_pf1, e_pf2, e_pf3, e_ar, e_aa, e_al, e_sw1, e_sw2, e_ct0, e_ct1, e_ct2, e_cat0, e_cat1, e_rk0, e_rk1, e_rk2, e_inv0, e_inv1, e_inv2, e_inv3, e_inv4, e_inv5, e_inv6, e_o0, e_o1, e_cl, e_cle, e_cg, e_cge, e_ce, e_cr1, e_cr2, e_r, e_R, e_up, Int.cast_ofNat_Int, u_app, false_and, and_false, e_b0, e_b1, e_bn, e_bl, e_bu, Int.reduceLE, Int.reduceLT, Int.reduceEq, Int.reduceNeg, Int.reduceAdd, Int.reduceSub, Int.reduceMul, Nat.reduceLeDiff, Nat.reduceLT, Nat.reduceAdd, Nat.reduceEqDiff, true_and, and_true, true_or, or_true, false_or, or_false, forall_const, not_true_eq_false, not_false_eq_true, true_implies, false_implies, implies_true, and_self, zero_ne_one, one_ne_zero, eq_self, reduceIte, s_X11_cell_0, b_X11_cell_0, s_X11_cell_13, b_X11_cell_13, s_X11_cell_22, b_X11_cell_22, s_X11_cell_25, b_X11_cell_25, s_X11_cell_42, b_X11_cell_42, s_X11_cell_48, b_X11_cell_48, s_X11_cell_51, b_X11_cell_51, s_X11_cell_58, b_X11_cell_58, s_X11_cell_74, b_X11_cell_74, s_X11_cell_90, b_X11_cell_90, s_X11_cell_114, b_X11_cell_114, s_X11_cell_120, b_X11_cell_120, s_X11_cell_126, b_X11_cell_126, s_X11_cell_129, b_X11_cell_129, s_X11_cell_135, b_X11_cell_135, s_X11_cell_147, b_X11_cell_147, g_X11_85, p_X11_85, g_X11_45, g_X11_42, g_X11_152, p_X11_152, ld_X11_91, G_X11_cell_149, sp_X11_isBoard_e, G_X11_cell_113, sp_X11_isCell_e, G_X11_cell_145, sp_X11_findNeeds_e, G_X11_cell_215, sp_X11_workOut_e, G_X11_cell_189, sp_X11_at_e, G_X11_cell_121, sp_X11_tileOf_e, e95, e94, hF, T_94, T_95, hbt, e14, eUp]
    refine ⟨by omega, fun c => by omega, fun c => ⟨by omega, by omega, fun c1 => ?_, fun c1 => ⟨by omega, by omega, by omega, fun c2 => ?_, fun c2 => ⟨by omega, by omega, ?_⟩⟩⟩⟩
    · rw [ecc, if_neg (fun q => c1 q.1), Int.add_zero, ← ecf0 (by rw [if_neg c1])] at ih
      exact ih
    · rw [ecc, if_neg (fun q => c2 q.2), Int.add_zero, ← ecf0 (by rw [if_pos c1]; omega)] at ih
      exact ih
    · rw [ecf 1 (by rw [if_pos c1])]
      rw [ecc, if_pos ⟨c1, c2⟩] at ih
      rw [show μ 85 14 + m_cc μ nd (9 * b + t).toNat + 1 = μ 85 14 + (m_cc μ nd (9 * b + t).toNat + 1) by omega]
      exact ih
set_option maxRecDepth 100000 in
set_option maxHeartbeats 4000000 in
theorem cell_b {Rt : Option QV → QM → Prop} {S : Nat → QL → List QV → QM → Prop} (hR : q_Rule cX11_cell 7 u_X11_cell fl_X11 ld_X11 G_X11_cell q_T 0 s_X11_cell Rt S) {μ : QM} {nd : Int → Int} {B x y t0 : Int} (hB : 0 ≤ B ∧ B < 10) (hnd : ∀ j : Int, q_mk (nd j)) (hf : ∀ j : Int, μ 94 j = 0 ∨ μ 94 j = 1) (hk : ∀ l6 : Option QV, S 129 [some (.inr (.inr 85)), some (.inl B), some (.inl x), some (.inl y), some (.inl t0), some (.inl 0), l6] [] (m_cm μ nd (m_cf μ nd (9 * (B + 1))) (μ 85 14 + m_cc μ nd (9 * (B + 1)).toNat))) :
    ∀ (d : Nat) (b : Int) (l6 : Option QV), 0 ≤ b → b + d = B + 1 → S 42 [some (.inr (.inr 85)), some (.inl B), some (.inl x), some (.inl y), some (.inl t0), some (.inl b), l6] [] (m_cm μ nd (m_cf μ nd (9 * b)) (μ 85 14 + m_cc μ nd (9 * b).toNat)) := by
  intro d
  induction d with
  | zero =>
    intro b l6 h1 h2
    obtain rfl : b = B + 1 := by omega
    refine hR 80 b_X11_cell_42 42 _ _ _ o_X11_cell_42 ?_
    simp only [v_opt_n, v_opt_s, v_nil, v_iconst, v_bipush, v_sipush, v_lconst0, v_lconst1, v_ldc, v_ldcw, v_ldc2, v_iload0, v_iload1, v_iload2, v_iload3, v_iload, v_lload0, v_lload1, v_lload2, v_lload3, v_lload, v_aload0, v_aload1, v_aload2, v_aload3, v_aload, v_istore0, v_istore1, v_istore2, v_istore3, v_istore, v_lstore0, v_lstore1, v_lstore2, v_lstore3, v_lstore, v_astore0, v_astore1, v_astore2, v_astore3, v_astore, v_iinc, v_iadd, v_isub, v_imul, v_iand, v_ior, v_ixor, v_ishl, v_ishr, v_iushr, v_ineg, v_idiv, v_irem, v_ladd, v_lsub, v_lmul, v_lcmp, v_i2l, v_l2i, v_i2c, v_dup, v_dup2, v_if_eq, v_if_ne, v_if_lt, v_if_ge, v_if_gt, v_if_le, v_ic_eq, v_ic_ne, v_ic_lt, v_ic_ge, v_ic_gt, v_ic_le, v_goto, v_tsw, v_lsw, v_ireturn, v_areturn, v_return, v_iaload, v_laload, v_baload, v_caload, v_aaload, v_iastore, v_lastore, v_bastore, v_castore, v_alen, v_invvi, v_invst, v_invsp, e_int, e_lng, e_ref, e_lg0, e_lg1, e_lg2, e_lg3, e_lg4, e_lg5, e_lg6, e_lg7, e_lg8, e_lg9, e_lg10, e_lg11, e_lg12, e_lg13, e_clrI, e_clrJ, e_clrP, e_clrN, e_s0, e_s1, e_s2, e_s3, e_s4, e_s5, e_s6, e_s7, e_s8, e_s9, e_s10, e_s11, e_s12, e_s13, e_t0, e_t1, e_t2, e_t3, e_t4, e_t5, e_t6, e_t7, e_t8, e_t9, e_t10, e_t11, e_t12, e_t13, e_fd, e_kk, e_k0, e_k1, e_k2, e_k3, e_k4, e_k5, e_k6, e_k7, e_k8, e_k9, e_sv0, e_sv1, e_sv2, e_sv3, e_svc, e_pf0, e_pf1, e_pf2, e_pf3, e_ar, e_aa, e_al, e_sw1, e_sw2, e_ct0, e_ct1, e_ct2, e_cat0, e_cat1, e_rk0, e_rk1, e_rk2, e_inv0, e_inv1, e_inv2, e_inv3, e_inv4, e_inv5, e_inv6, e_o0, e_o1, e_cl, e_cle, e_cg, e_cge, e_ce, e_cr1, e_cr2, e_r, e_R, e_up, Int.cast_ofNat_Int, u_app, false_and, and_false, e_b0, e_b1, e_bn, e_bl, e_bu, Int.reduceLE, Int.reduceLT, Int.reduceEq, Int.reduceNeg, Int.reduceAdd, Int.reduceSub, Int.reduceMul, Nat.reduceLeDiff, Nat.reduceLT, Nat.reduceAdd, Nat.reduceEqDiff, true_and, and_true, true_or, or_true, false_or, or_false, forall_const, not_true_eq_false, not_false_eq_true, true_implies, false_implies, implies_true, and_self, zero_ne_one, one_ne_zero, eq_self, reduceIte, s_X11_cell_0, b_X11_cell_0, s_X11_cell_13, b_X11_cell_13, s_X11_cell_22, b_X11_cell_22, s_X11_cell_25, b_X11_cell_25, s_X11_cell_42, b_X11_cell_42, s_X11_cell_48, b_X11_cell_48, s_X11_cell_51, b_X11_cell_51, s_X11_cell_58, b_X11_cell_58, s_X11_cell_74, b_X11_cell_74, s_X11_cell_90, b_X11_cell_90, s_X11_cell_114, b_X11_cell_114, s_X11_cell_120, b_X11_cell_120, s_X11_cell_126, b_X11_cell_126, s_X11_cell_129, b_X11_cell_129, s_X11_cell_135, b_X11_cell_135, s_X11_cell_147, b_X11_cell_147, g_X11_85, p_X11_85, g_X11_45, g_X11_42, g_X11_152, p_X11_152, ld_X11_91, G_X11_cell_149, sp_X11_isBoard_e, G_X11_cell_113, sp_X11_isCell_e, G_X11_cell_145, sp_X11_findNeeds_e, G_X11_cell_215, sp_X11_workOut_e, G_X11_cell_189, sp_X11_at_e, G_X11_cell_121, sp_X11_tileOf_e]
    exact ⟨by omega, fun _ => hk _, fun c => by omega⟩
  | succ d ih =>
    intro b l6 h1 h2
    refine hR 80 b_X11_cell_42 42 _ _ _ o_X11_cell_42 ?_
    simp only [v_opt_n, v_opt_s, v_nil, v_iconst, v_bipush, v_sipush, v_lconst0, v_lconst1, v_ldc, v_ldcw, v_ldc2, v_iload0, v_iload1, v_iload2, v_iload3, v_iload, v_lload0, v_lload1, v_lload2, v_lload3, v_lload, v_aload0, v_aload1, v_aload2, v_aload3, v_aload, v_istore0, v_istore1, v_istore2, v_istore3, v_istore, v_lstore0, v_lstore1, v_lstore2, v_lstore3, v_lstore, v_astore0, v_astore1, v_astore2, v_astore3, v_astore, v_iinc, v_iadd, v_isub, v_imul, v_iand, v_ior, v_ixor, v_ishl, v_ishr, v_iushr, v_ineg, v_idiv, v_irem, v_ladd, v_lsub, v_lmul, v_lcmp, v_i2l, v_l2i, v_i2c, v_dup, v_dup2, v_if_eq, v_if_ne, v_if_lt, v_if_ge, v_if_gt, v_if_le, v_ic_eq, v_ic_ne, v_ic_lt, v_ic_ge, v_ic_gt, v_ic_le, v_goto, v_tsw, v_lsw, v_ireturn, v_areturn, v_return, v_iaload, v_laload, v_baload, v_caload, v_aaload, v_iastore, v_lastore, v_bastore, v_castore, v_alen, v_invvi, v_invst, v_invsp, e_int, e_lng, e_ref, e_lg0, e_lg1, e_lg2, e_lg3, e_lg4, e_lg5, e_lg6, e_lg7, e_lg8, e_lg9, e_lg10, e_lg11, e_lg12, e_lg13, e_clrI, e_clrJ, e_clrP, e_clrN, e_s0, e_s1, e_s2, e_s3, e_s4, e_s5, e_s6, e_s7, e_s8, e_s9, e_s10, e_s11, e_s12, e_s13, e_t0, e_t1, e_t2, e_t3, e_t4, e_t5, e_t6, e_t7, e_t8, e_t9, e_t10, e_t11, e_t12, e_t13, e_fd, e_kk, e_k0, e_k1, e_k2, e_k3, e_k4, e_k5, e_k6, e_k7, e_k8, e_k9, e_sv0, e_sv1, e_sv2, e_sv3, e_svc, e_pf0, e_pf1, e_pf2, e_pf3, e_ar, e_aa, e_al, e_sw1, e_sw2, e_ct0, e_ct1, e_ct2, e_cat0, e_cat1, e_rk0, e_rk1, e_rk2, e_inv0, e_inv1, e_inv2, e_inv3, e_inv4, e_inv5, e_inv6, e_o0, e_o1, e_cl, e_cle, e_cg, e_cge, e_ce, e_cr1, e_cr2, e_r, e_R, e_up, Int.cast_ofNat_Int, u_app, false_and, and_false, e_b0, e_b1, e_bn, e_bl, e_bu, Int.reduceLE, Int.reduceLT, Int.reduceEq, Int.reduceNeg, Int.reduceAdd, Int.reduceSub, Int.reduceMul, Nat.reduceLeDiff, Nat.reduceLT, Nat.reduceAdd, Nat.reduceEqDiff, true_and, and_true, true_or, or_true, false_or, or_false, forall_const, not_true_eq_false, not_false_eq_true, true_implies, false_implies, implies_true, and_self, zero_ne_one, one_ne_zero, eq_self, reduceIte, s_X11_cell_0, b_X11_cell_0, s_X11_cell_13, b_X11_cell_13, s_X11_cell_22, b_X11_cell_22, s_X11_cell_25, b_X11_cell_25, s_X11_cell_42, b_X11_cell_42, s_X11_cell_48, b_X11_cell_48, s_X11_cell_51, b_X11_cell_51, s_X11_cell_58, b_X11_cell_58, s_X11_cell_74, b_X11_cell_74, s_X11_cell_90, b_X11_cell_90, s_X11_cell_114, b_X11_cell_114, s_X11_cell_120, b_X11_cell_120, s_X11_cell_126, b_X11_cell_126, s_X11_cell_129, b_X11_cell_129, s_X11_cell_135, b_X11_cell_135, s_X11_cell_147, b_X11_cell_147, g_X11_85, p_X11_85, g_X11_45, g_X11_42, g_X11_152, p_X11_152, ld_X11_91, G_X11_cell_149, sp_X11_isBoard_e, G_X11_cell_113, sp_X11_isCell_e, G_X11_cell_145, sp_X11_findNeeds_e, G_X11_cell_215, sp_X11_workOut_e, G_X11_cell_189, sp_X11_at_e, G_X11_cell_121, sp_X11_tileOf_e]
    refine ⟨by omega, fun c => by omega, fun c => ?_⟩
    have key := cell_t hR (x := x) (y := y) (t0 := t0) hB hnd hf (b := b) ⟨h1, by omega⟩ (fun l6 => ih (b + 1) l6 (by omega) (by omega)) 9 0 (by omega) (by omega)
    rw [show 9 * b + 0 = 9 * b by omega] at key
    exact key
/-- what the making leaves as it was -/
def m_mfr (μ ν : QM) : Prop := ∀ a j : Int, ¬ (a = 85 ∧ 17 ≤ j ∧ j ≤ 20) → ¬ a = 96 → ¬ a = 97 → ¬ a = 98 → ν a j = μ a j
set_option maxRecDepth 100000 in
set_option maxHeartbeats 4000000 in
theorem cell_w {Rt : Option QV → QM → Prop} {S : Nat → QL → List QV → QM → Prop} (hR : q_Rule cX11_cell 7 u_X11_cell fl_X11 ld_X11 G_X11_cell q_T 0 s_X11_cell Rt S) {μ : QM} {B x y t0 : Int} {l6 : Option QV} (hok : m_bok μ) (hB : 0 ≤ B ∧ B < μ 85 7) (hxy : m_in (μ 85 2) (μ 85 3) x y) (hk : ∀ ν : QM, m_mfr μ ν → Rt (some (.inl (m_VM μ (B + 1).toNat B x y))) ν) :
    ∀ (d n : Nat) (ν : QM), (n : Int) + d = B + 1 → m_mfr μ ν → (∀ b u v : Int, 0 ≤ b → b < n → m_in (μ 85 2) (μ 85 3) u v → ν 96 (144 * b + 12 * v + u) = m_VM μ n b u v) → S 129 [some (.inr (.inr 85)), some (.inl B), some (.inl x), some (.inl y), some (.inl t0), some (.inl (n : Int)), l6] [] ν := by
  intro d
  induction d with
  | zero =>
    intro n ν h1 hm hV
    obtain ⟨q1, q2, q3, q4⟩ := id hok
    have e1 : n = (B + 1).toNat := by omega
    have e2 := hV B x y hB.1 (by omega) hxy
    refine hR 80 b_X11_cell_129 129 _ _ _ o_X11_cell_129 ?_
    simp only [v_opt_n, v_opt_s, v_nil, v_iconst, v_bipush, v_sipush, v_lconst0, v_lconst1, v_ldc, v_ldcw, v_ldc2, v_iload0, v_iload1, v_iload2, v_iload3, v_iload, v_lload0, v_lload1, v_lload2, v_lload3, v_lload, v_aload0, v_aload1, v_aload2, v_aload3, v_aload, v_istore0, v_istore1, v_istore2, v_istore3, v_istore, v_lstore0, v_lstore1, v_lstore2, v_lstore3, v_lstore, v_astore0, v_astore1, v_astore2, v_astore3, v_astore, v_iinc, v_iadd, v_isub, v_imul, v_iand, v_ior, v_ixor, v_ishl, v_ishr, v_iushr, v_ineg, v_idiv, v_irem, v_ladd, v_lsub, v_lmul, v_lcmp, v_i2l, v_l2i, v_i2c, v_dup, v_dup2, v_if_eq, v_if_ne, v_if_lt, v_if_ge, v_if_gt, v_if_le, v_ic_eq, v_ic_ne, v_ic_lt, v_ic_ge, v_ic_gt, v_ic_le, v_goto, v_tsw, v_lsw, v_ireturn, v_areturn, v_return, v_iaload, v_laload, v_baload, v_caload, v_aaload, v_iastore, v_lastore, v_bastore, v_castore, v_alen, v_invvi, v_invst, v_invsp, e_int, e_lng, e_ref, e_lg0, e_lg1, e_lg2, e_lg3, e_lg4, e_lg5, e_lg6, e_lg7, e_lg8, e_lg9, e_lg10, e_lg11, e_lg12, e_lg13, e_clrI, e_clrJ, e_clrP, e_clrN, e_s0, e_s1, e_s2, e_s3, e_s4, e_s5, e_s6, e_s7, e_s8, e_s9, e_s10, e_s11, e_s12, e_s13, e_t0, e_t1, e_t2, e_t3, e_t4, e_t5, e_t6, e_t7, e_t8, e_t9, e_t10, e_t11, e_t12, e_t13, e_fd, e_kk, e_k0, e_k1, e_k2, e_k3, e_k4, e_k5, e_k6, e_k7, e_k8, e_k9, e_sv0, e_sv1, e_sv2, e_sv3, e_svc, e_pf0, e_pf1, e_pf2, e_pf3, e_ar, e_aa, e_al, e_sw1, e_sw2, e_ct0, e_ct1, e_ct2, e_cat0, e_cat1, e_rk0, e_rk1, e_rk2, e_inv0, e_inv1, e_inv2, e_inv3, e_inv4, e_inv5, e_inv6, e_o0, e_o1, e_cl, e_cle, e_cg, e_cge, e_ce, e_cr1, e_cr2, e_r, e_R, e_up, Int.cast_ofNat_Int, u_app, false_and, and_false, e_b0, e_b1, e_bn, e_bl, e_bu, Int.reduceLE, Int.reduceLT, Int.reduceEq, Int.reduceNeg, Int.reduceAdd, Int.reduceSub, Int.reduceMul, Nat.reduceLeDiff, Nat.reduceLT, Nat.reduceAdd, Nat.reduceEqDiff, true_and, and_true, true_or, or_true, false_or, or_false, forall_const, not_true_eq_false, not_false_eq_true, true_implies, false_implies, implies_true, and_self, zero_ne_one, one_ne_zero, eq_self, reduceIte, s_X11_cell_0, b_X11_cell_0, s_X11_cell_13, b_X11_cell_13, s_X11_cell_22, b_X11_cell_22, s_X11_cell_25, b_X11_cell_25, s_X11_cell_42, b_X11_cell_42, s_X11_cell_48, b_X11_cell_48, s_X11_cell_51, b_X11_cell_51, s_X11_cell_58, b_X11_cell_58, s_X11_cell_74, b_X11_cell_74, s_X11_cell_90, b_X11_cell_90, s_X11_cell_114, b_X11_cell_114, s_X11_cell_120, b_X11_cell_120, s_X11_cell_126, b_X11_cell_126, s_X11_cell_129, b_X11_cell_129, s_X11_cell_135, b_X11_cell_135, s_X11_cell_147, b_X11_cell_147, g_X11_85, p_X11_85, g_X11_45, g_X11_42, g_X11_152, p_X11_152, ld_X11_91, G_X11_cell_149, sp_X11_isBoard_e, G_X11_cell_113, sp_X11_isCell_e, G_X11_cell_145, sp_X11_findNeeds_e, G_X11_cell_215, sp_X11_workOut_e, G_X11_cell_189, sp_X11_at_e, G_X11_cell_121, sp_X11_tileOf_e, e2]
    refine ⟨by omega, fun _ => ⟨by omega, ?_⟩, fun c => by omega⟩
    rw [e1]
    exact hk ν hm
  | succ d ih =>
    intro n ν h1 hm hV
    obtain ⟨q1, q2, q3, q4⟩ := id hok
    have hn : (0 : Int) ≤ n ∧ (n : Int) < μ 85 7 := by omega
    obtain ⟨r0, r8⟩ := q3 n hn.1 hn.2
    obtain ⟨r1, r2, r3, r4, r5, r6, r7⟩ := id r0
    have e2 : ν 85 2 = μ 85 2 := hm 85 2 (by omega) (by decide) (by decide) (by decide)
    have e3 : ν 85 3 = μ 85 3 := hm 85 3 (by omega) (by decide) (by decide) (by decide)
    have f89 : ∀ j, ν 89 j = μ 89 j := fun j => hm 89 j (by omega) (by decide) (by decide) (by decide)
    have f90 : ∀ j, ν 90 j = μ 90 j := fun j => hm 90 j (by omega) (by decide) (by decide) (by decide)
    have f91 : ∀ j, ν 91 j = μ 91 j := fun j => hm 91 j (by omega) (by decide) (by decide) (by decide)
    have f92 : ∀ j, ν 92 j = μ 92 j := fun j => hm 92 j (by omega) (by decide) (by decide) (by decide)
    have f93 : ∀ j, ν 93 j = μ 93 j := fun j => hm 93 j (by omega) (by decide) (by decide) (by decide)
    have f86 : ∀ j, ν 86 j = μ 86 j := fun j => hm 86 j (by omega) (by decide) (by decide) (by decide)
    have hrb : m_rb ν n := by
      unfold m_rb
      simp only [f89, f90, f91, f92, f93]
      exact r0
    refine hR 80 b_X11_cell_129 129 _ _ _ o_X11_cell_129 ?_
    simp only [v_opt_n, v_opt_s, v_nil, v_iconst, v_bipush, v_sipush, v_lconst0, v_lconst1, v_ldc, v_ldcw, v_ldc2, v_iload0, v_iload1, v_iload2, v_iload3, v_iload, v_lload0, v_lload1, v_lload2, v_lload3, v_lload, v_aload0, v_aload1, v_aload2, v_aload3, v_aload, v_istore0, v_istore1, v_istore2, v_istore3, v_istore, v_lstore0, v_lstore1, v_lstore2, v_lstore3, v_lstore, v_astore0, v_astore1, v_astore2, v_astore3, v_astore, v_iinc, v_iadd, v_isub, v_imul, v_iand, v_ior, v_ixor, v_ishl, v_ishr, v_iushr, v_ineg, v_idiv, v_irem, v_ladd, v_lsub, v_lmul, v_lcmp, v_i2l, v_l2i, v_i2c, v_dup, v_dup2, v_if_eq, v_if_ne, v_if_lt, v_if_ge, v_if_gt, v_if_le, v_ic_eq, v_ic_ne, v_ic_lt, v_ic_ge, v_ic_gt, v_ic_le, v_goto, v_tsw, v_lsw, v_ireturn, v_areturn, v_return, v_iaload, v_laload, v_baload, v_caload, v_aaload, v_iastore, v_lastore, v_bastore, v_castore, v_alen, v_invvi, v_invst, v_invsp, e_int, e_lng, e_ref, e_lg0, e_lg1, e_lg2, e_lg3, e_lg4, e_lg5, e_lg6, e_lg7, e_lg8, e_lg9, e_lg10, e_lg11, e_lg12, e_lg13, e_clrI, e_clrJ, e_clrP, e_clrN, e_s0, e_s1, e_s2, e_s3, e_s4, e_s5, e_s6, e_s7, e_s8, e_s9, e_s10, e_s11, e_s12, e_s13, e_t0, e_t1, e_t2, e_t3, e_t4, e_t5, e_t6, e_t7, e_t8, e_t9, e_t10, e_t11, e_t12, e_t13, e_fd, e_kk, e_k0, e_k1, e_k2, e_k3, e_k4, e_k5, e_k6, e_k7, e_k8, e_k9, e_sv0, e_sv1, e_sv2, e_sv3, e_svc, e_pf0, e_pf1, e_pf2, e_pf3, e_ar, e_aa, e_al, e_sw1, e_sw2, e_ct0, e_ct1, e_ct2, e_cat0, e_cat1, e_rk0, e_rk1, e_rk2, e_inv0, e_inv1, e_inv2, e_inv3, e_inv4, e_inv5, e_inv6, e_o0, e_o1, e_cl, e_cle, e_cg, e_cge, e_ce, e_cr1, e_cr2, e_r, e_R, e_up, Int.cast_ofNat_Int, u_app, false_and, and_false, e_b0, e_b1, e_bn, e_bl, e_bu, Int.reduceLE, Int.reduceLT, Int.reduceEq, Int.reduceNeg, Int.reduceAdd, Int.reduceSub, Int.reduceMul, Nat.reduceLeDiff, Nat.reduceLT, Nat.reduceAdd, Nat.reduceEqDiff, true_and, and_true, true_or, or_true, false_or, or_false, forall_const, not_true_eq_false, not_false_eq_true, true_implies, false_implies, implies_true, and_self, zero_ne_one, one_ne_zero, eq_self, reduceIte, s_X11_cell_0, b_X11_cell_0, s_X11_cell_13, b_X11_cell_13, s_X11_cell_22, b_X11_cell_22, s_X11_cell_25, b_X11_cell_25, s_X11_cell_42, b_X11_cell_42, s_X11_cell_48, b_X11_cell_48, s_X11_cell_51, b_X11_cell_51, s_X11_cell_58, b_X11_cell_58, s_X11_cell_74, b_X11_cell_74, s_X11_cell_90, b_X11_cell_90, s_X11_cell_114, b_X11_cell_114, s_X11_cell_120, b_X11_cell_120, s_X11_cell_126, b_X11_cell_126, s_X11_cell_129, b_X11_cell_129, s_X11_cell_135, b_X11_cell_135, s_X11_cell_147, b_X11_cell_147, g_X11_85, p_X11_85, g_X11_45, g_X11_42, g_X11_152, p_X11_152, ld_X11_91, G_X11_cell_149, sp_X11_isBoard_e, G_X11_cell_113, sp_X11_isCell_e, G_X11_cell_145, sp_X11_findNeeds_e, G_X11_cell_215, sp_X11_workOut_e, G_X11_cell_189, sp_X11_at_e, G_X11_cell_121, sp_X11_tileOf_e, e2, e3, f89, f90, f91, f92, f93, f86]
    refine ⟨by omega, fun c => by omega, fun c => ⟨by omega, q1, hrb, fun a u v a0 a1 q => by rw [hV a u v a0 a1 q]; exact m_V_vr hok n (by omega) a u v a0 a1 q, q4, fun ν' hfr hval => ?_⟩⟩
    have e5 : ((n + 1 : Nat) : Int) = (n : Int) + 1 := by omega
    rw [← e5]
    refine ih (n + 1) ν' (by omega) (fun a j a1 a2 a3 a4 => (hfr a j a1 a3 a4 (fun q => a2 q.1)).trans (hm a j a1 a2 a3 a4)) (fun b u v b0 b1 q => ?_)
    show ν' 96 (144 * b + 12 * v + u) = (if b = (n : Int) then _ else _)
    by_cases c9 : b = (n : Int)
    · rw [if_pos c9, c9, hval u v q]
      have ho : ∀ k : Int, 0 ≤ k → k < m_mn (μ 89 n) → 0 ≤ μ 92 (3 * n + k) ∧ μ 92 (3 * n + k) < n := fun k k0 k1 => r3 k k0 (by omega)
      refine m_val_cg q1 q (fun _ _ _ => rfl) (fun c u v q => ?_) (fun c0 c9 c10 c12 u v q => ?_) (fun c u v q => ?_)
      · have := ho 0 (by omega) (by unfold m_mn; (repeat' split) <;> omega)
        rw [show 3 * (n : Int) + 0 = 3 * n by omega] at this
        have e := hV _ u v this.1 this.2 q
        show ν 96 (144 * μ 92 (3 * n) + 12 * v + u) = m_VM μ n (μ 92 (3 * n + 0)) u v
        rw [show 3 * (n : Int) + 0 = 3 * n by omega]
        exact e
      · have := ho 1 (by omega) (by unfold m_mn; (repeat' split) <;> omega)
        exact hV _ u v this.1 this.2 q
      · have := ho 2 (by omega) (by unfold m_mn; (repeat' split) <;> omega)
        exact hV _ u v this.1 this.2 q
    · rw [if_neg c9]
      have e := hfr 96 (144 * b + 12 * v + u) (by omega) (by decide) (by decide) (by omega)
      rw [e]
      exact hV b u v b0 (by omega) q
set_option maxRecDepth 100000 in
set_option maxHeartbeats 4000000 in
theorem B_X11_cell : q_Body cX11_cell 7 u_X11_cell fl_X11 ld_X11 G_X11_cell q_T 0 s_X11_cell sp_X11_cell := by
  intro S Rt hR ra μ h
  obtain ⟨this, board, x, y, rfl, h⟩ := sp_X11_cell_i h
  refine ⟨by simp [q_sl, q_ct], ?_⟩
  show S 0 [some (.inr (.inr this)), some (.inl board), some (.inl x), some (.inl y), none, none, none] [] μ
  obtain ⟨rfl, h1, h2, h3, hk⟩ := h
  obtain ⟨q1, q2, q3, q4⟩ := id h2
  have e89 : q_up μ 85 0 0 89 = μ 89 := funext fun j => u_na (by decide)
  have e91 : q_up μ 85 0 0 91 = μ 91 := funext fun j => u_na (by decide)
  have e93 : q_up μ 85 0 0 93 = μ 93 := funext fun j => u_na (by decide)
  refine hR 80 [] 0 _ _ _ rfl ?_
  simp only [v_opt_n, v_opt_s, v_nil, v_iconst, v_bipush, v_sipush, v_lconst0, v_lconst1, v_ldc, v_ldcw, v_ldc2, v_iload0, v_iload1, v_iload2, v_iload3, v_iload, v_lload0, v_lload1, v_lload2, v_lload3, v_lload, v_aload0, v_aload1, v_aload2, v_aload3, v_aload, v_istore0, v_istore1, v_istore2, v_istore3, v_istore, v_lstore0, v_lstore1, v_lstore2, v_lstore3, v_lstore, v_astore0, v_astore1, v_astore2, v_astore3, v_astore, v_iinc, v_iadd, v_isub, v_imul, v_iand, v_ior, v_ixor, v_ishl, v_ishr, v_iushr, v_ineg, v_idiv, v_irem, v_ladd, v_lsub, v_lmul, v_lcmp, v_i2l, v_l2i, v_i2c, v_dup, v_dup2, v_if_eq, v_if_ne, v_if_lt, v_if_ge, v_if_gt, v_if_le, v_ic_eq, v_ic_ne, v_ic_lt, v_ic_ge, v_ic_gt, v_ic_le, v_goto, v_tsw, v_lsw, v_ireturn, v_areturn, v_return, v_iaload, v_laload, v_baload, v_caload, v_aaload, v_iastore, v_lastore, v_bastore, v_castore, v_alen, v_invvi, v_invst, v_invsp, e_int, e_lng, e_ref, e_lg0, e_lg1, e_lg2, e_lg3, e_lg4, e_lg5, e_lg6, e_lg7, e_lg8, e_lg9, e_lg10, e_lg11, e_lg12, e_lg13, e_clrI, e_clrJ, e_clrP, e_clrN, e_s0, e_s1, e_s2, e_s3, e_s4, e_s5, e_s6, e_s7, e_s8, e_s9, e_s10, e_s11, e_s12, e_s13, e_t0, e_t1, e_t2, e_t3, e_t4, e_t5, e_t6, e_t7, e_t8, e_t9, e_t10, e_t11, e_t12, e_t13, e_fd, e_kk, e_k0, e_k1, e_k2, e_k3, e_k4, e_k5, e_k6, e_k7, e_k8, e_k9, e_sv0, e_sv1, e_sv2, e_sv3, e_svc, e_pf0, e_pf1, e_pf2, e_pf3, e_ar, e_aa, e_al, e_sw1, e_sw2, e_ct0, e_ct1, e_ct2, e_cat0, e_cat1, e_rk0, e_rk1, e_rk2, e_inv0, e_inv1, e_inv2, e_inv3, e_inv4, e_inv5, e_inv6, e_o0, e_o1, e_cl, e_cle, e_cg, e_cge, e_ce, e_cr1, e_cr2, e_r, e_R, e_up, Int.cast_ofNat_Int, u_app, false_and, and_false, e_b0, e_b1, e_bn, e_bl, e_bu, Int.reduceLE, Int.reduceLT, Int.reduceEq, Int.reduceNeg, Int.reduceAdd, Int.reduceSub, Int.reduceMul, Nat.reduceLeDiff, Nat.reduceLT, Nat.reduceAdd, Nat.reduceEqDiff, true_and, and_true, true_or, or_true, false_or, or_false, forall_const, not_true_eq_false, not_false_eq_true, true_implies, false_implies, implies_true, and_self, zero_ne_one, one_ne_zero, eq_self, reduceIte, s_X11_cell_0, b_X11_cell_0, s_X11_cell_13, b_X11_cell_13, s_X11_cell_22, b_X11_cell_22, s_X11_cell_25, b_X11_cell_25, s_X11_cell_42, b_X11_cell_42, s_X11_cell_48, b_X11_cell_48, s_X11_cell_51, b_X11_cell_51, s_X11_cell_58, b_X11_cell_58, s_X11_cell_74, b_X11_cell_74, s_X11_cell_90, b_X11_cell_90, s_X11_cell_114, b_X11_cell_114, s_X11_cell_120, b_X11_cell_120, s_X11_cell_126, b_X11_cell_126, s_X11_cell_129, b_X11_cell_129, s_X11_cell_135, b_X11_cell_135, s_X11_cell_147, b_X11_cell_147, g_X11_85, p_X11_85, g_X11_45, g_X11_42, g_X11_152, p_X11_152, ld_X11_91, G_X11_cell_149, sp_X11_isBoard_e, G_X11_cell_113, sp_X11_isCell_e, G_X11_cell_145, sp_X11_findNeeds_e, G_X11_cell_215, sp_X11_workOut_e, G_X11_cell_189, sp_X11_at_e, G_X11_cell_121, sp_X11_tileOf_e, e89, e91, e93]
  split at hk
  · rename_i c
    obtain ⟨cb, cxy⟩ := c
    have ht : m_tl (μ 85 2) (μ 85 3) (y / 4 * 3 + x / 4) := by omega
    refine ⟨by omega, fun q => absurd cb q, fun _ => ⟨by omega, fun _ => ⟨by omega, by omega, q1, ht, m_bok_rok h2 (by omega), ?_⟩, fun q => absurd cxy q⟩⟩
    rw [m_cm_0]
    have hnd := fun j => (m_nd_sub (w := μ 85 2) (h := μ 85 3) (kd := μ 89) (mn := μ 93) (of := m_ofM μ) (board := board) ht j).1
    generalize hN : m_nd (μ 85 2) (μ 85 3) (μ 89) (μ 93) (m_ofM μ) board (y / 4 * 3 + x / 4) = nd at hnd hk
    have key := cell_b hR (x := x) (y := y) (t0 := y / 4 * 3 + x / 4) (B := board) ⟨cb.1, by omega⟩ hnd h3 (fun l6 => ?_) (board + 1).toNat 0 none (by omega) (by omega)
    · have e0 : m_cf μ nd (9 * 0) = μ 94 := by
        funext j
        unfold m_cf
        rw [if_neg (by omega)]
      rw [e0] at key
      have e1 : μ 85 14 + m_cc μ nd (9 * (0 : Int)).toNat = μ 85 14 := Int.add_zero _
      rw [e1] at key
      exact key
    · have ro : ∀ a j : Int, ¬ a = 85 → ¬ a = 95 → ¬ (a = 94 ∧ 0 ≤ j ∧ j < 90) → m_cm μ nd (m_cf μ nd (9 * (board + 1))) (μ 85 14 + m_cc μ nd (9 * (board + 1)).toNat) a j = μ a j := fun a j n1 n2 n3 => by
        simp only [u_cm, n1, n2, n3, false_and, if_false]
      have r5 : ∀ j : Int, ¬ j = 0 → ¬ j = 14 → m_cm μ nd (m_cf μ nd (9 * (board + 1))) (μ 85 14 + m_cc μ nd (9 * (board + 1)).toNat) 85 j = μ 85 j := fun j n1 n2 => by
        simp only [u_cm, n1, n2, and_false, if_false, Int.reduceEq, false_and]
      have r14 : m_cm μ nd (m_cf μ nd (9 * (board + 1))) (μ 85 14 + m_cc μ nd (9 * (board + 1)).toNat) 85 14 = μ 85 14 + m_cc μ nd (9 * (board + 1)).toNat := by
        simp only [u_cm, Int.reduceEq, and_false, if_false, and_self, if_true]
      have r94 : ∀ j : Int, 0 ≤ j → j < 90 → m_cm μ nd (m_cf μ nd (9 * (board + 1))) (μ 85 14 + m_cc μ nd (9 * (board + 1)).toNat) 94 j = m_cf μ nd (9 * (board + 1)) j := fun j j0 j1 => by
        simp only [u_cm, Int.reduceEq, false_and, if_false, true_and]
        rw [if_pos ⟨j0, j1⟩]
      generalize hM : m_cm μ nd (m_cf μ nd (9 * (board + 1))) (μ 85 14 + m_cc μ nd (9 * (board + 1)).toNat) = μ1 at ro r5 r14 r94
      have g2 := r5 2 (by decide) (by decide)
      have g3 := r5 3 (by decide) (by decide)
      have g7 := r5 7 (by decide) (by decide)
      have f89 : μ1 89 = μ 89 := funext fun j => ro 89 j (by decide) (by decide) (by omega)
      have f90 : μ1 90 = μ 90 := funext fun j => ro 90 j (by decide) (by decide) (by omega)
      have f91 : μ1 91 = μ 91 := funext fun j => ro 91 j (by decide) (by decide) (by omega)
      have f92 : μ1 92 = μ 92 := funext fun j => ro 92 j (by decide) (by decide) (by omega)
      have f93 : μ1 93 = μ 93 := funext fun j => ro 93 j (by decide) (by decide) (by omega)
      have f86 : μ1 86 = μ 86 := funext fun j => ro 86 j (by decide) (by decide) (by omega)
      have hok1 : m_bok μ1 := by
        unfold m_bok m_rb at h2 ⊢
        rw [g2, g3, g7, f89, f90, f91, f92, f93, f86]
        exact h2
      have hVM : m_VM μ1 = m_VM μ := by
        show m_V (μ1 85 2) (μ1 85 3) (μ1 89) (μ1 90) (μ1 91) (m_ofM μ1) (m_shM μ1) = m_V (μ 85 2) (μ 85 3) (μ 89) (μ 90) (μ 91) (m_ofM μ) (m_shM μ)
        have e1 : m_ofM μ1 = m_ofM μ := by
          funext b k
          show μ1 92 (3 * b + k) = μ 92 (3 * b + k)
          rw [f92]
        have e2 : m_shM μ1 = m_shM μ := by
          funext s x y
          show μ1 86 (144 * s + 12 * y + x) = μ 86 (144 * s + 12 * y + x)
          rw [f86]
        rw [g2, g3, f89, f90, f91, e1, e2]
      refine cell_w hR (μ := μ1) hok1 (by rw [g7]; exact cb) (by rw [g2, g3]; exact cxy) (fun ν hm => ?_) (board + 1).toNat 0 μ1 (by omega) (fun _ _ _ _ _ _ => rfl) (fun b u v b0 b1 _ => by omega)
      rw [hVM]
      refine hk ν (fun a j n1 n2 n3 n4 n5 n6 => ?_) (fun j j0 j1 => ?_) ?_
      · by_cases c85 : a = 85
        · subst c85
          rw [hm 85 j (by omega) (by decide) (by decide) (by decide)]
          exact r5 j (by omega) (by omega)
        · rw [hm a j (by omega) n4 n5 n6]
          exact ro a j c85 n3 n2
      · rw [hm 94 j (by omega) (by decide) (by decide) (by decide)]
        exact r94 j j0 j1
      · rw [hm 85 14 (by omega) (by decide) (by decide) (by decide)]
        exact r14
  · (repeat' (first | assumption | (refine And.intro ?_ ?_) | (intro _))) <;> first | omega | (exfalso; omega)
set_option maxRecDepth 100000 in
theorem C_X11_cell {l : Launch} {ad : Int → Nat} {D : va_G} {cy : Nat → ClassId} {Z : State → Prop} (hZ : q_Zg ad Z) : q_Ct l q_T q_N ad D cy Z yX11_cell cX11_cell 7 (some .int) rm_X11_cell sp_X11_cell := by
  obtain ⟨hf, hg, hld⟩ := q_chkS k_X11_cell
  refine q_met (rk := 0) q_wokT (by decide) rfl hf hg hld rfl (q_skS L_X11_cell o_X11_cell) ?_ ?_ ?_ ?_ B_X11_cell
  · intro i hi; exact absurd hi List.not_mem_nil
  · intro i hi
    have hi : i = 149 ∨ i = 113 ∨ i = 145 ∨ i = 215 ∨ i = 189 := by simpa [u_X11_cell] using hi
    rcases hi with rfl | rfl | rfl | rfl | rfl
    · exact q_crV hZ.1 (C_X11_isBoard hZ) rv_X11_isBoard cm_X11_isBoard (by decide +kernel) (by decide +kernel) (by decide +kernel) (by decide +kernel) (by decide +kernel) ⟨rfl, rfl⟩ (by decide)
    · exact q_crV hZ.1 (C_X11_isCell hZ) rv_X11_isCell cm_X11_isCell (by decide +kernel) (by decide +kernel) (by decide +kernel) (by decide +kernel) (by decide +kernel) ⟨rfl, rfl⟩ (by decide)
    · exact q_crV hZ.1 (C_X11_findNeeds hZ) rv_X11_findNeeds cm_X11_findNeeds (by decide +kernel) (by decide +kernel) (by decide +kernel) (by decide +kernel) (by decide +kernel) ⟨rfl, rfl⟩ (by decide)
    · exact q_crV hZ.1 (C_X11_workOut hZ) rv_X11_workOut cm_X11_workOut (by decide +kernel) (by decide +kernel) (by decide +kernel) (by decide +kernel) (by decide +kernel) ⟨rfl, rfl⟩ (by decide)
    · exact q_crV hZ.1 (C_X11_at hZ) rv_X11_at cm_X11_at (by decide +kernel) (by decide +kernel) (by decide +kernel) (by decide +kernel) (by decide +kernel) ⟨rfl, rfl⟩ (by decide)
  · intro i hi
    have hi : i = 121 := by simpa [u_X11_cell] using hi
    rcases hi with rfl
    · exact q_crS hZ.1 (C_X11_tileOf hZ) cm_X11_tileOf (by decide +kernel) (by decide +kernel) (by decide +kernel) (by decide +kernel) ⟨rfl, rfl⟩ (by decide)
  · intro i hi; exact absurd hi List.not_mem_nil
theorem rv_X11_cell : q_rcv q_T yX11_cell.cls sp_X11_cell := by
  intro ra μ K h
  obtain ⟨this, board, x, y, rfl, h⟩ := sp_X11_cell_i h
  obtain rfl := h.1
  exact ⟨[.inl y, .inl x, .inl board], 85, 11, _, _, rfl, T_85, rfl, rfl⟩
theorem cm_X11_cell : Cond.code yX11_cell cX11_cell 7 (some .int) ∈ q_tb := by decide +kernel

