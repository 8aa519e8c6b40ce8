/-! the class: tokens -/
theorem c_skp (T : Int → Int) : ∀ (n : Nat) (p : Int), (∀ j : Int, p ≤ j → j < m_skp T n p → T j = 32) ∧ (m_skp T n p = p + n ∨ ¬ T (m_skp T n p) = 32)
  | 0, p => by
    refine ⟨fun j h1 h2 => ?_, Or.inl ?_⟩
    · have h2 : j < p := h2
      omega
    · show p = p + ((0 : Nat) : Int)
      omega
  | n + 1, p => by
    obtain ⟨h1, h2⟩ := c_skp T n (p + 1)
    show (∀ j : Int, p ≤ j → j < (if T p = 32 then m_skp T n (p + 1) else p) → T j = 32) ∧ ((if T p = 32 then m_skp T n (p + 1) else p) = p + ((n + 1 : Nat) : Int) ∨ ¬ T (if T p = 32 then m_skp T n (p + 1) else p) = 32)
    by_cases c : T p = 32
    · rw [if_pos c]
      refine ⟨fun j j1 j2 => ?_, ?_⟩
      · by_cases c2 : j = p
        · rw [c2]
          exact c
        · exact h1 j (by omega) j2
      · rcases h2 with q | q
        · exact Or.inl (by omega)
        · exact Or.inr q
    · rw [if_neg c]
      exact ⟨fun j j1 j2 => by omega, Or.inr c⟩
theorem c_wd (T : Int → Int) (st : Int) : ∀ (n : Nat) (p v : Int), (∀ j : Int, p ≤ j → j < (m_wd T st n p v).1 → m_sml (T j)) ∧ ((m_wd T st n p v).1 = p + n ∨ ¬ m_sml (T (m_wd T st n p v).1))
  | 0, p, v => by
    refine ⟨fun j h1 h2 => ?_, Or.inl ?_⟩
    · have h2 : j < p := h2
      omega
    · show p = p + ((0 : Nat) : Int)
      omega
  | n + 1, p, v => by
    obtain ⟨h1, h2⟩ := c_wd T st n (p + 1) (if p - st < 6 then v * 32 + T p - 96 else -1)
    unfold m_wd
    by_cases c : m_sml (T p)
    · rw [if_pos c]
      refine ⟨fun j j1 j2 => ?_, ?_⟩
      · by_cases c2 : j = p
        · rw [c2]
          exact c
        · exact h1 j (by omega) j2
      · rcases h2 with q | q
        · exact Or.inl (by omega)
        · exact Or.inr q
    · rw [if_neg c]
      exact ⟨fun j j1 j2 => by have j2 : j < p := j2; omega, Or.inr c⟩
theorem c_dg (T : Int → Int) : ∀ (n : Nat) (p v : Int), (∀ j : Int, p ≤ j → j < (m_dg T n p v).1 → m_dig (T j)) ∧ ((m_dg T n p v).1 = p + n ∨ ¬ m_dig (T (m_dg T n p v).1))
  | 0, p, v => by
    refine ⟨fun j h1 h2 => ?_, Or.inl ?_⟩
    · have h2 : j < p := h2
      omega
    · show p = p + ((0 : Nat) : Int)
      omega
  | n + 1, p, v => by
    obtain ⟨h1, h2⟩ := c_dg T n (p + 1) (if 1000000 < v then v else v * 10 + T p - 48)
    unfold m_dg
    by_cases c : m_dig (T p)
    · rw [if_pos c]
      refine ⟨fun j j1 j2 => ?_, ?_⟩
      · by_cases c2 : j = p
        · rw [c2]
          exact c
        · exact h1 j (by omega) j2
      · rcases h2 with q | q
        · exact Or.inl (by omega)
        · exact Or.inr q
    · rw [if_neg c]
      exact ⟨fun j j1 j2 => by have j2 : j < p := j2; omega, Or.inr c⟩
/-- what stands in a token -/
theorem c_tki {T : Int → Int} {L : Int} (ht : m_tp T L) (i : Nat) : (∀ j : Int, m_pos T L i ≤ j → j < m_pl T L i → T j = 32) ∧ (m_pl T L i = L ∨ ¬ T (m_pl T L i) = 32) ∧ (m_so T L i = 1 → (m_pos T L (i + 1) = (m_wd T (m_pl T L i) (L - m_pl T L i).toNat (m_pl T L i) 0).1 ∧ m_wo T L i = (m_wd T (m_pl T L i) (L - m_pl T L i).toNat (m_pl T L i) 0).2) ∧ (∀ j : Int, m_pl T L i ≤ j → j < m_pos T L (i + 1) → m_sml (T j)) ∧ (m_pos T L (i + 1) = L ∨ ¬ m_sml (T (m_pos T L (i + 1))))) ∧ (m_so T L i = 2 → m_wo T L i = (m_dg T (L - m_pl T L i).toNat (m_pl T L i) 0).2 ∧ (∀ j : Int, m_pl T L i ≤ j → j < m_pos T L (i + 1) → m_dig (T j)) ∧ (m_pos T L (i + 1) = L ∨ ¬ m_dig (T (m_pos T L (i + 1))))) := by
  have hb := m_tk_b ht i
  have h1 := c_skp T (L - m_pos T L i).toNat (m_pos T L i)
  refine ⟨h1.1, ?_, fun c => ?_, fun c => ?_⟩
  · have h2 := h1.2
    change m_pl T L i = m_pos T L i + ((L - m_pos T L i).toNat : Int) ∨ ¬ T (m_pl T L i) = 32 at h2
    rcases h2 with q | q
    · exact Or.inl (by omega)
    · exact Or.inr q
  · have e : m_tw T L (m_pos T L i) = m_wd T (m_pl T L i) (L - m_pl T L i).toNat (m_pl T L i) 0 := by
      have c : m_sort T L (m_pos T L i) = 1 := c
      unfold m_tw
      rw [if_neg (by omega), if_pos c]
      rfl
    have e1 : m_pos T L (i + 1) = (m_wd T (m_pl T L i) (L - m_pl T L i).toNat (m_pl T L i) 0).1 := by
      rw [← e]
      rfl
    have e2 : m_wo T L i = (m_wd T (m_pl T L i) (L - m_pl T L i).toNat (m_pl T L i) 0).2 := by
      rw [← e]
      rfl
    obtain ⟨q1, q2⟩ := c_wd T (m_pl T L i) (L - m_pl T L i).toNat (m_pl T L i) 0
    rw [← e1] at q1 q2
    refine ⟨⟨e1, e2⟩, q1, ?_⟩
    rcases q2 with q | q
    · exact Or.inl (by omega)
    · exact Or.inr q
  · have e : m_tw T L (m_pos T L i) = m_dg T (L - m_pl T L i).toNat (m_pl T L i) 0 := by
      have c : m_sort T L (m_pos T L i) = 2 := c
      unfold m_tw
      rw [if_neg (by omega), if_neg (by omega), if_pos c]
      rfl
    have e1 : m_pos T L (i + 1) = (m_dg T (L - m_pl T L i).toNat (m_pl T L i) 0).1 := by
      rw [← e]
      rfl
    have e2 : m_wo T L i = (m_dg T (L - m_pl T L i).toNat (m_pl T L i) 0).2 := by
      rw [← e]
      rfl
    obtain ⟨q1, q2⟩ := c_dg T (L - m_pl T L i).toNat (m_pl T L i) 0
    rw [← e1] at q1 q2
    refine ⟨e2, q1, ?_⟩
    rcases q2 with q | q
    · exact Or.inl (by omega)
    · exact Or.inr q
/-- a token starts there -/
abbrev c_st (T : Int → Int) (L p : Int) : Prop := (m_sml (c_by T L p) ∧ ¬ m_sml (c_by T L (p - 1))) ∨ (¬ m_sml (c_by T L p) ∧ m_dig (c_by T L p) ∧ ¬ m_dig (c_by T L (p - 1))) ∨ (¬ m_sml (c_by T L p) ∧ ¬ m_dig (c_by T L p) ∧ ¬ c_by T L p = 32)
theorem c_by_in {T : Int → Int} {L p : Int} (h : 0 ≤ p ∧ p < L) : c_by T L p = T p := if_pos h
theorem c_by_m {T : Int → Int} {L : Int} : c_by T L (-1) = 0 := if_neg (by omega)
theorem c_start {T : Int → Int} {L : Int} (ht : m_tp T L) {c : Nat} {p : Int} (h0 : 0 ≤ p) (h1 : p < L) (h2 : p ≤ m_pl T L c) (h3 : c = 0 ∨ m_pl T L (c - 1) < p) : c_st T L p ↔ p = m_pl T L c := by
  obtain ⟨k1, k2, -, -⟩ := c_tki ht c
  have hb := m_tk_b ht c
  have e0 := c_by_in (T := T) (L := L) (p := p) ⟨h0, h1⟩
  by_cases cp : m_pos T L c ≤ p
  · by_cases c1 : p = m_pl T L c
    · refine ⟨fun _ => c1, fun _ => ?_⟩
      have n32 : ¬ T p = 32 := by
        rcases k2 with q | q
        · omega
        · rw [c1]
          exact q
      have prev : (m_sml (T p) → ¬ m_sml (c_by T L (p - 1))) ∧ (m_dig (T p) → ¬ m_dig (c_by T L (p - 1))) := by
        by_cases c2 : p = 0
        · rw [c2]
          have := c_by_m (T := T) (L := L)
          rw [show (0 : Int) - 1 = -1 by omega, this]
          constructor <;> intro _ <;> decide
        · have e1 := c_by_in (T := T) (L := L) (p := p - 1) ⟨by omega, by omega⟩
          rw [e1]
          by_cases c3 : m_pos T L c ≤ p - 1
          · have := k1 (p - 1) c3 (by omega)
            rw [this]
            constructor <;> intro _ <;> decide
          · obtain ⟨c', rfl⟩ : ∃ c', c = c' + 1 := by
              cases c with
              | zero =>
                have : m_pos T L 0 = 0 := rfl
                omega
              | succ c' => exact ⟨c', rfl⟩
            obtain ⟨-, -, s1, s2⟩ := c_tki ht c'
            have hb' := m_tk_b ht c'
            have ep : p = m_pos T L (c' + 1) := by omega
            rcases hb'.2 with q | q | q | q
            · omega
            · obtain ⟨-, w1, w2⟩ := s1 q.1
              have := w1 (p - 1) (by omega) (by omega)
              rw [← ep] at w2
              rcases w2 with w2 | w2
              · omega
              · exact ⟨fun z => absurd z w2, fun z => by omega⟩
            · obtain ⟨-, w1, w2⟩ := s2 q.1
              have := w1 (p - 1) (by omega) (by omega)
              rw [← ep] at w2
              rcases w2 with w2 | w2
              · omega
              · exact ⟨fun z => by omega, fun z => absurd z w2⟩
            · have e9 : p - 1 = m_pl T L c' := by omega
              rw [e9]
              exact ⟨fun _ => q.2.2.1, fun _ => q.2.2.2.1⟩
      unfold c_st
      rw [e0]
      by_cases d1 : m_sml (T p)
      · exact Or.inl ⟨d1, prev.1 d1⟩
      · by_cases d2 : m_dig (T p)
        · exact Or.inr (Or.inl ⟨d1, d2, prev.2 d2⟩)
        · exact Or.inr (Or.inr ⟨d1, d2, n32⟩)
    · have := k1 p cp (by omega)
      refine ⟨fun q => ?_, fun q => absurd q c1⟩
      unfold c_st at q
      rw [e0, this] at q
      omega
  · obtain ⟨c', rfl⟩ : ∃ c', c = c' + 1 := by
      cases c with
      | zero =>
        have : m_pos T L 0 = 0 := rfl
        omega
      | succ c' => exact ⟨c', rfl⟩
    have h3 : m_pl T L c' < p := by
      rcases h3 with q | q
      · omega
      · exact q
    obtain ⟨-, -, s1, s2⟩ := c_tki ht c'
    have hb' := m_tk_b ht c'
    have e1 := c_by_in (T := T) (L := L) (p := p - 1) ⟨by omega, by omega⟩
    refine ⟨fun q => ?_, fun q => by omega⟩
    unfold c_st at q
    rw [e0, e1] at q
    rcases hb'.2 with r | r | r | r
    · omega
    · obtain ⟨-, w1, w2⟩ := s1 r.1
      have := w1 (p - 1) (by omega) (by omega)
      have := w1 p (by omega) (by omega)
      omega
    · obtain ⟨-, w1, w2⟩ := s2 r.1
      have := w1 (p - 1) (by omega) (by omega)
      have := w1 p (by omega) (by omega)
      omega
    · omega
def c_hold (μ : QM) (kind code place : Int) : QM := q_up (q_up (q_up (q_up μ 17 (μ 16 4) kind) 18 (μ 16 4) code) 19 (μ 16 4) place) 16 4 (μ 16 4 + 1)
def sp_X8_hold : QP := fun ra μ K => match ra with
  | [.inl place, .inl code, .inl kind, .inr (.inr this)] => this = 16 ∧ (0 ≤ μ 16 4 ∧ μ 16 4 ≤ 300) ∧ K none (c_hold μ kind code place)
  | _ => False
theorem sp_X8_hold_e (this kind code place : Int) (μ : QM) (K : Option QV → QM → Prop) : sp_X8_hold [.inl place, .inl code, .inl kind, .inr (.inr this)] μ K = (this = 16 ∧ (0 ≤ μ 16 4 ∧ μ 16 4 ≤ 300) ∧ K none (c_hold μ kind code place)) := propext Iff.rfl
theorem sp_X8_hold_i {ra : List QV} {μ : QM} {K : Option QV → QM → Prop} (h : sp_X8_hold ra μ K) : ∃ this kind code place : Int, ra = [.inl place, .inl code, .inl kind, .inr (.inr this)] ∧ (this = 16 ∧ (0 ≤ μ 16 4 ∧ μ 16 4 ≤ 300) ∧ K none (c_hold μ kind code place)) := by
  unfold sp_X8_hold at h
  split at h
  · exact ⟨_, _, _, _, rfl, h⟩
  · exact h.elim
def rm_X8_hold : Room := { frames := 0, cells := 0, slots := 0, locals := 0 }
def G_X8_hold : Nat → Nat × QP := fun i => match i with
  | _ => (0, fun _ _ _ => False)
set_option maxRecDepth 100000 in
set_option maxHeartbeats 4000000 in
theorem B_X8_hold : q_Body cX8_hold 4 u_X8_hold fl_X8 ld_X8 G_X8_hold q_T 4 s_X8_hold sp_X8_hold := by
  intro S Rt hR ra μ h
  obtain ⟨this, kind, code, place, rfl, h⟩ := sp_X8_hold_i h
  refine ⟨by simp [q_sl, q_ct], ?_⟩
  show S 0 [some (.inr (.inr this)), some (.inl kind), some (.inl code), some (.inl place)] [] μ
  obtain ⟨rfl, h1, hk⟩ := h
  refine hR 40 [] 0 _ _ _ rfl ?_
  simp only [v_opt_n, v_opt_s, v_nil, v_iconst, v_bipush, v_sipush, v_lconst0, v_lconst1, v_ldc, v_ldcw, v_ldc2, v_iload0, v_iload1, v_iload2, v_iload3, v_iload, v_lload0, v_lload1, v_lload2, v_lload3, v_lload, v_aload0, v_aload1, v_aload2, v_aload3, v_aload, v_istore0, v_istore1, v_istore2, v_istore3, v_istore, v_lstore0, v_lstore1, v_lstore2, v_lstore3, v_lstore, v_astore0, v_astore1, v_astore2, v_astore3, v_astore, v_iinc, v_iadd, v_isub, v_imul, v_iand, v_ior, v_ixor, v_ishl, v_ishr, v_iushr, v_ineg, v_idiv, v_irem, v_ladd, v_lsub, v_lmul, v_lcmp, v_i2l, v_l2i, v_i2c, v_dup, v_dup2, v_if_eq, v_if_ne, v_if_lt, v_if_ge, v_if_gt, v_if_le, v_ic_eq, v_ic_ne, v_ic_lt, v_ic_ge, v_ic_gt, v_ic_le, v_goto, v_tsw, v_lsw, v_ireturn, v_areturn, v_return, v_iaload, v_laload, v_baload, v_caload, v_aaload, v_iastore, v_lastore, v_bastore, v_castore, v_alen, v_invvi, v_invst, v_invsp, e_int, e_lng, e_ref, e_lg0, e_lg1, e_lg2, e_lg3, e_lg4, e_lg5, e_lg6, e_lg7, e_lg8, e_lg9, e_lg10, e_lg11, e_lg12, e_lg13, e_clrI, e_clrJ, e_clrP, e_clrN, e_s0, e_s1, e_s2, e_s3, e_s4, e_s5, e_s6, e_s7, e_s8, e_s9, e_s10, e_s11, e_s12, e_s13, e_t0, e_t1, e_t2, e_t3, e_t4, e_t5, e_t6, e_t7, e_t8, e_t9, e_t10, e_t11, e_t12, e_t13, e_fd, e_kk, e_k0, e_k1, e_k2, e_k3, e_k4, e_k5, e_k6, e_k7, e_k8, e_k9, e_sv0, e_sv1, e_sv2, e_sv3, e_svc, e_pf0, e_pf1, e_pf2, e_pf3, e_ar, e_aa, e_al, e_sw1, e_sw2, e_ct0, e_ct1, e_ct2, e_cat0, e_cat1, e_rk0, e_rk1, e_rk2, e_inv0, e_inv1, e_inv2, e_inv3, e_inv4, e_inv5, e_inv6, e_o0, e_o1, e_cl, e_cle, e_cg, e_cge, e_ce, e_cr1, e_cr2, e_r, e_R, e_up, Int.cast_ofNat_Int, u_app, false_and, and_false, e_b0, e_b1, e_bn, e_bl, e_bu, Int.reduceLE, Int.reduceLT, Int.reduceEq, Int.reduceNeg, Int.reduceAdd, Int.reduceSub, Int.reduceMul, Nat.reduceLeDiff, Nat.reduceLT, Nat.reduceAdd, Nat.reduceEqDiff, true_and, and_true, true_or, or_true, false_or, or_false, forall_const, not_true_eq_false, not_false_eq_true, true_implies, false_implies, implies_true, and_self, zero_ne_one, one_ne_zero, eq_self, reduceIte, s_X8_hold_0, b_X8_hold_0, s_X8_hold_10, b_X8_hold_10, s_X8_hold_50, b_X8_hold_50, g_X8_29, p_X8_29, g_X8_9, g_X8_15, g_X8_18, T_17, T_18, T_19]
  exact ⟨by omega, fun c => by omega, fun c => ⟨by omega, by omega, by omega, by omega, by omega, by omega, hk⟩⟩
set_option maxRecDepth 100000 in
theorem C_X8_hold {l : Launch} {ad : Int → Nat} {D : va_G} {cy : Nat → ClassId} {Z : State → Prop} (hZ : q_Zg ad Z) : q_Ct l q_T q_N ad D cy Z yX8_hold cX8_hold 4 none rm_X8_hold sp_X8_hold := by
  obtain ⟨hf, hg, hld⟩ := q_chkS k_X8_hold
  refine q_met (rk := 4) q_wokT (by decide) rfl hf hg hld rfl (q_skS L_X8_hold o_X8_hold) ?_ ?_ ?_ ?_ B_X8_hold
  · intro i hi; exact absurd hi List.not_mem_nil
  · intro i hi; exact absurd hi List.not_mem_nil
  · intro i hi; exact absurd hi List.not_mem_nil
  · intro i hi; exact absurd hi List.not_mem_nil
theorem rv_X8_hold : q_rcv q_T yX8_hold.cls sp_X8_hold := by
  intro ra μ K h
  obtain ⟨this, kind, code, place, rfl, h⟩ := sp_X8_hold_i h
  obtain rfl := h.1
  exact ⟨[.inl place, .inl code, .inl kind], 16, 8, _, _, rfl, T_16, rfl, rfl⟩
theorem cm_X8_hold : Cond.code yX8_hold cX8_hold 4 none ∈ q_tb := by decide +kernel
def sp_X8_isStart : QP := fun ra μ K => match ra with
  | [.inl place, .inr (.inr this)] => this = 16 ∧ m_tp (μ 14) (μ 13 1) ∧ (0 ≤ place ∧ place ≤ 300) ∧ K (some (.inl (q_b (c_st (μ 14) (μ 13 1) place)))) μ
  | _ => False
theorem sp_X8_isStart_e (this place : Int) (μ : QM) (K : Option QV → QM → Prop) : sp_X8_isStart [.inl place, .inr (.inr this)] μ K = (this = 16 ∧ m_tp (μ 14) (μ 13 1) ∧ (0 ≤ place ∧ place ≤ 300) ∧ K (some (.inl (q_b (c_st (μ 14) (μ 13 1) place)))) μ) := propext Iff.rfl
theorem sp_X8_isStart_i {ra : List QV} {μ : QM} {K : Option QV → QM → Prop} (h : sp_X8_isStart ra μ K) : ∃ this place : Int, ra = [.inl place, .inr (.inr this)] ∧ (this = 16 ∧ m_tp (μ 14) (μ 13 1) ∧ (0 ≤ place ∧ place ≤ 300) ∧ K (some (.inl (q_b (c_st (μ 14) (μ 13 1) place)))) μ) := by
  unfold sp_X8_isStart at h
  split at h
  · exact ⟨_, _, rfl, h⟩
  · exact h.elim
def rm_X8_isStart : Room := { frames := 2, cells := 0, slots := 0, locals := 42 }
def G_X8_isStart : Nat → Nat × QP := fun i => match i with
  | 47 => (2, sp_X7_isLetter)
  | 50 => (2, sp_X7_isDigit)
  | 53 => (2, sp_X7_byteAt)
  | _ => (0, fun _ _ _ => False)
theorem G_X8_isStart_47 : G_X8_isStart 47 = (2, sp_X7_isLetter) := id rfl
theorem G_X8_isStart_50 : G_X8_isStart 50 = (2, sp_X7_isDigit) := id rfl
theorem G_X8_isStart_53 : G_X8_isStart 53 = (2, sp_X7_byteAt) := id rfl
set_option maxRecDepth 100000 in
set_option maxHeartbeats 4000000 in
theorem B_X8_isStart : q_Body cX8_isStart 2 u_X8_isStart fl_X8 ld_X8 G_X8_isStart q_T 1 s_X8_isStart sp_X8_isStart := by
  intro S Rt hR ra μ h
  obtain ⟨this, place, rfl, h⟩ := sp_X8_isStart_i h
  refine ⟨by simp [q_sl, q_ct], ?_⟩
  show S 0 [some (.inr (.inr this)), some (.inl place)] [] μ
  obtain ⟨rfl, h1, h2, hk⟩ := h
  have b1 := c_by_b h1 place
  refine hR 60 [] 0 _ _ _ rfl ?_
  simp only [v_opt_n, v_opt_s, v_nil, v_iconst, v_bipush, v_sipush, v_lconst0, v_lconst1, v_ldc, v_ldcw, v_ldc2, v_iload0, v_iload1, v_iload2, v_iload3, v_iload, v_lload0, v_lload1, v_lload2, v_lload3, v_lload, v_aload0, v_aload1, v_aload2, v_aload3, v_aload, v_istore0, v_istore1, v_istore2, v_istore3, v_istore, v_lstore0, v_lstore1, v_lstore2, v_lstore3, v_lstore, v_astore0, v_astore1, v_astore2, v_astore3, v_astore, v_iinc, v_iadd, v_isub, v_imul, v_iand, v_ior, v_ixor, v_ishl, v_ishr, v_iushr, v_ineg, v_idiv, v_irem, v_ladd, v_lsub, v_lmul, v_lcmp, v_i2l, v_l2i, v_i2c, v_dup, v_dup2, v_if_eq, v_if_ne, v_if_lt, v_if_ge, v_if_gt, v_if_le, v_ic_eq, v_ic_ne, v_ic_lt, v_ic_ge, v_ic_gt, v_ic_le, v_goto, v_tsw, v_lsw, v_ireturn, v_areturn, v_return, v_iaload, v_laload, v_baload, v_caload, v_aaload, v_iastore, v_lastore, v_bastore, v_castore, v_alen, v_invvi, v_invst, v_invsp, e_int, e_lng, e_ref, e_lg0, e_lg1, e_lg2, e_lg3, e_lg4, e_lg5, e_lg6, e_lg7, e_lg8, e_lg9, e_lg10, e_lg11, e_lg12, e_lg13, e_clrI, e_clrJ, e_clrP, e_clrN, e_s0, e_s1, e_s2, e_s3, e_s4, e_s5, e_s6, e_s7, e_s8, e_s9, e_s10, e_s11, e_s12, e_s13, e_t0, e_t1, e_t2, e_t3, e_t4, e_t5, e_t6, e_t7, e_t8, e_t9, e_t10, e_t11, e_t12, e_t13, e_fd, e_kk, e_k0, e_k1, e_k2, e_k3, e_k4, e_k5, e_k6, e_k7, e_k8, e_k9, e_sv0, e_sv1, e_sv2, e_sv3, e_svc, e_pf0, e_pf1, e_pf2, e_pf3, e_ar, e_aa, e_al, e_sw1, e_sw2, e_ct0, e_ct1, e_ct2, e_cat0, e_cat1, e_rk0, e_rk1, e_rk2, e_inv0, e_inv1, e_inv2, e_inv3, e_inv4, e_inv5, e_inv6, e_o0, e_o1, e_cl, e_cle, e_cg, e_cge, e_ce, e_cr1, e_cr2, e_r, e_R, e_up, Int.cast_ofNat_Int, u_app, false_and, and_false, e_b0, e_b1, e_bn, e_bl, e_bu, Int.reduceLE, Int.reduceLT, Int.reduceEq, Int.reduceNeg, Int.reduceAdd, Int.reduceSub, Int.reduceMul, Nat.reduceLeDiff, Nat.reduceLT, Nat.reduceAdd, Nat.reduceEqDiff, true_and, and_true, true_or, or_true, false_or, or_false, forall_const, not_true_eq_false, not_false_eq_true, true_implies, false_implies, implies_true, and_self, zero_ne_one, one_ne_zero, eq_self, reduceIte, s_X8_isStart_0, b_X8_isStart_0, s_X8_isStart_11, b_X8_isStart_11, s_X8_isStart_24, b_X8_isStart_24, s_X8_isStart_28, b_X8_isStart_28, s_X8_isStart_29, b_X8_isStart_29, s_X8_isStart_30, b_X8_isStart_30, s_X8_isStart_41, b_X8_isStart_41, s_X8_isStart_54, b_X8_isStart_54, s_X8_isStart_58, b_X8_isStart_58, s_X8_isStart_59, b_X8_isStart_59, s_X8_isStart_60, b_X8_isStart_60, s_X8_isStart_73, b_X8_isStart_73, s_X8_isStart_77, b_X8_isStart_77, s_X8_isStart_78, b_X8_isStart_78, g_X8_21, G_X8_isStart_47, sp_X7_isLetter_e, G_X8_isStart_50, sp_X7_isDigit_e, G_X8_isStart_53, sp_X7_byteAt_e]
  refine ⟨by omega, h1, fun c1 => ⟨by omega, h1, fun c2 => ⟨by omega, h1, by omega, fun c3 => ?_, fun c3 => ?_⟩, fun c2 => ⟨by omega, h1, fun c3 => ?_, fun c3 => ?_⟩⟩, fun c1 => ⟨by omega, h1, fun c3 => ?_, fun c3 => ?_⟩⟩
  · rw [q_bf (by omega)] at hk
    exact hk
  · rw [q_bt (by omega)] at hk
    exact hk
  · rw [q_bf (by omega)] at hk
    exact hk
  · rw [q_bt (by omega)] at hk
    exact hk
  · rw [q_bf (by omega)] at hk
    exact hk
  · rw [q_bt (by omega)] at hk
    exact hk
set_option maxRecDepth 100000 in
theorem C_X8_isStart {l : Launch} {ad : Int → Nat} {D : va_G} {cy : Nat → ClassId} {Z : State → Prop} (hZ : q_Zg ad Z) : q_Ct l q_T q_N ad D cy Z yX8_isStart cX8_isStart 2 (some .boolean) rm_X8_isStart sp_X8_isStart := by
  obtain ⟨hf, hg, hld⟩ := q_chkS k_X8_isStart
  refine q_met (rk := 1) q_wokT (by decide) rfl hf hg hld rfl (q_skS L_X8_isStart o_X8_isStart) ?_ ?_ ?_ ?_ B_X8_isStart
  · intro i hi; exact absurd hi List.not_mem_nil
  · intro i hi
    have hi : i = 47 ∨ i = 50 ∨ i = 53 := by simpa [u_X8_isStart] using hi
    rcases hi with rfl | rfl | rfl
    · exact q_crV hZ.1 (C_X7_isLetter hZ) rv_X7_isLetter cm_X7_isLetter (by decide +kernel) (by decide +kernel) (by decide +kernel) (by decide +kernel) (by decide +kernel) ⟨rfl, rfl⟩ (by decide)
    · exact q_crV hZ.1 (C_X7_isDigit hZ) rv_X7_isDigit cm_X7_isDigit (by decide +kernel) (by decide +kernel) (by decide +kernel) (by decide +kernel) (by decide +kernel) ⟨rfl, rfl⟩ (by decide)
    · exact q_crV hZ.1 (C_X7_byteAt hZ) rv_X7_byteAt cm_X7_byteAt (by decide +kernel) (by decide +kernel) (by decide +kernel) (by decide +kernel) (by decide +kernel) ⟨rfl, rfl⟩ (by decide)
  · intro i hi; exact absurd hi List.not_mem_nil
  · intro i hi; exact absurd hi List.not_mem_nil
theorem rv_X8_isStart : q_rcv q_T yX8_isStart.cls sp_X8_isStart := by
  intro ra μ K h
  obtain ⟨this, place, rfl, h⟩ := sp_X8_isStart_i h
  obtain rfl := h.1
  exact ⟨[.inl place], 16, 8, _, _, rfl, T_16, rfl, rfl⟩
theorem cm_X8_isStart : Cond.code yX8_isStart cX8_isStart 2 (some .boolean) ∈ q_tb := by decide +kernel
def c_cap (v : Int) : Int := if 1000000 < v then 1000001 else v
def sp_X8_holdDigits : QP := fun ra μ K => match ra with
  | [.inl start, .inr (.inr this)] => this = 16 ∧ m_tp (μ 14) (μ 13 1) ∧ (0 ≤ μ 16 4 ∧ μ 16 4 ≤ 300) ∧ (0 ≤ start ∧ start < μ 13 1) ∧ K none (c_hold μ 3 (c_cap (m_dg (μ 14) (μ 13 1 - start).toNat start 0).2) start)
  | _ => False
theorem sp_X8_holdDigits_e (this start : Int) (μ : QM) (K : Option QV → QM → Prop) : sp_X8_holdDigits [.inl start, .inr (.inr this)] μ K = (this = 16 ∧ m_tp (μ 14) (μ 13 1) ∧ (0 ≤ μ 16 4 ∧ μ 16 4 ≤ 300) ∧ (0 ≤ start ∧ start < μ 13 1) ∧ K none (c_hold μ 3 (c_cap (m_dg (μ 14) (μ 13 1 - start).toNat start 0).2) start)) := propext Iff.rfl
theorem sp_X8_holdDigits_i {ra : List QV} {μ : QM} {K : Option QV → QM → Prop} (h : sp_X8_holdDigits ra μ K) : ∃ this start : Int, ra = [.inl start, .inr (.inr this)] ∧ (this = 16 ∧ m_tp (μ 14) (μ 13 1) ∧ (0 ≤ μ 16 4 ∧ μ 16 4 ≤ 300) ∧ (0 ≤ start ∧ start < μ 13 1) ∧ K none (c_hold μ 3 (c_cap (m_dg (μ 14) (μ 13 1 - start).toNat start 0).2) start)) := by
  unfold sp_X8_holdDigits at h
  split at h
  · exact ⟨_, _, rfl, h⟩
  · exact h.elim
def rm_X8_holdDigits : Room := { frames := 2, cells := 0, slots := 0, locals := 42 }
def G_X8_holdDigits : Nat → Nat × QP := fun i => match i with
  | 50 => (2, sp_X7_isDigit)
  | 53 => (2, sp_X7_byteAt)
  | 43 => (4, sp_X8_hold)
  | 72 => (2, sp_J9_min_7cf53)
  | _ => (0, fun _ _ _ => False)
theorem G_X8_holdDigits_50 : G_X8_holdDigits 50 = (2, sp_X7_isDigit) := id rfl
theorem G_X8_holdDigits_53 : G_X8_holdDigits 53 = (2, sp_X7_byteAt) := id rfl
theorem G_X8_holdDigits_43 : G_X8_holdDigits 43 = (4, sp_X8_hold) := id rfl
theorem G_X8_holdDigits_72 : G_X8_holdDigits 72 = (2, sp_J9_min_7cf53) := id rfl
theorem hd_4 {Rt : Option QV → QM → Prop} {S : Nat → QL → List QV → QM → Prop} (hR : q_Rule cX8_holdDigits 4 u_X8_holdDigits fl_X8 ld_X8 G_X8_holdDigits q_T 4 s_X8_holdDigits Rt S) {μ : QM} {start : Int} (ht : m_tp (μ 14) (μ 13 1)) (h1 : 0 ≤ μ 16 4 ∧ μ 16 4 ≤ 300) : ∀ (n : Nat) (i v : Int), 0 ≤ i → i + n = μ 13 1 → (0 ≤ v ∧ v ≤ 10000009) → Rt none (c_hold μ 3 (c_cap (m_dg (μ 14) n i v).2) start) → S 4 [some (.inr (.inr 16)), some (.inl start), some (.inl (c_cap v)), some (.inl i)] [] μ := by
  intro n
  have hL := ht.1
  induction n with
  | zero =>
    intro i v i0 i1 hv hk
    refine hR 40 b_X8_holdDigits_4 4 _ _ _ o_X8_holdDigits_4 ?_
    simp only [v_opt_n, v_opt_s, v_nil, v_iconst, v_bipush, v_sipush, v_lconst0, v_lconst1, v_ldc, v_ldcw, v_ldc2, v_iload0, v_iload1, v_iload2, v_iload3, v_iload, v_lload0, v_lload1, v_lload2, v_lload3, v_lload, v_aload0, v_aload1, v_aload2, v_aload3, v_aload, v_istore0, v_istore1, v_istore2, v_istore3, v_istore, v_lstore0, v_lstore1, v_lstore2, v_lstore3, v_lstore, v_astore0, v_astore1, v_astore2, v_astore3, v_astore, v_iinc, v_iadd, v_isub, v_imul, v_iand, v_ior, v_ixor, v_ishl, v_ishr, v_iushr, v_ineg, v_idiv, v_irem, v_ladd, v_lsub, v_lmul, v_lcmp, v_i2l, v_l2i, v_i2c, v_dup, v_dup2, v_if_eq, v_if_ne, v_if_lt, v_if_ge, v_if_gt, v_if_le, v_ic_eq, v_ic_ne, v_ic_lt, v_ic_ge, v_ic_gt, v_ic_le, v_goto, v_tsw, v_lsw, v_ireturn, v_areturn, v_return, v_iaload, v_laload, v_baload, v_caload, v_aaload, v_iastore, v_lastore, v_bastore, v_castore, v_alen, v_invvi, v_invst, v_invsp, e_int, e_lng, e_ref, e_lg0, e_lg1, e_lg2, e_lg3, e_lg4, e_lg5, e_lg6, e_lg7, e_lg8, e_lg9, e_lg10, e_lg11, e_lg12, e_lg13, e_clrI, e_clrJ, e_clrP, e_clrN, e_s0, e_s1, e_s2, e_s3, e_s4, e_s5, e_s6, e_s7, e_s8, e_s9, e_s10, e_s11, e_s12, e_s13, e_t0, e_t1, e_t2, e_t3, e_t4, e_t5, e_t6, e_t7, e_t8, e_t9, e_t10, e_t11, e_t12, e_t13, e_fd, e_kk, e_k0, e_k1, e_k2, e_k3, e_k4, e_k5, e_k6, e_k7, e_k8, e_k9, e_sv0, e_sv1, e_sv2, e_sv3, e_svc, e_pf0, e_pf1, e_pf2, e_pf3, e_ar, e_aa, e_al, e_sw1, e_sw2, e_ct0, e_ct1, e_ct2, e_cat0, e_cat1, e_rk0, e_rk1, e_rk2, e_inv0, e_inv1, e_inv2, e_inv3, e_inv4, e_inv5, e_inv6, e_o0, e_o1, e_cl, e_cle, e_cg, e_cge, e_ce, e_cr1, e_cr2, e_r, e_R, e_up, Int.cast_ofNat_Int, u_app, false_and, and_false, e_b0, e_b1, e_bn, e_bl, e_bu, Int.reduceLE, Int.reduceLT, Int.reduceEq, Int.reduceNeg, Int.reduceAdd, Int.reduceSub, Int.reduceMul, Nat.reduceLeDiff, Nat.reduceLT, Nat.reduceAdd, Nat.reduceEqDiff, true_and, and_true, true_or, or_true, false_or, or_false, forall_const, not_true_eq_false, not_false_eq_true, true_implies, false_implies, implies_true, and_self, zero_ne_one, one_ne_zero, eq_self, reduceIte, s_X8_holdDigits_0, b_X8_holdDigits_0, s_X8_holdDigits_4, b_X8_holdDigits_4, s_X8_holdDigits_15, b_X8_holdDigits_15, s_X8_holdDigits_26, b_X8_holdDigits_26, s_X8_holdDigits_54, b_X8_holdDigits_54, g_X8_21, g_X8_32, ld_X8_71, G_X8_holdDigits_50, sp_X7_isDigit_e, G_X8_holdDigits_53, sp_X7_byteAt_e, G_X8_holdDigits_43, sp_X8_hold_e, G_X8_holdDigits_72, sp_J9_min_7cf53_e]
    exact ⟨by omega, fun c => ⟨h1, hk⟩, fun c => by omega⟩
  | succ n ih =>
    intro i v i0 i1 hv hk
    have hT := ht.2 i i0 (by omega)
    have e0 := c_by_in (T := μ 14) (L := μ 13 1) (p := i) ⟨i0, by omega⟩
    refine hR 40 b_X8_holdDigits_4 4 _ _ _ o_X8_holdDigits_4 ?_
    simp only [v_opt_n, v_opt_s, v_nil, v_iconst, v_bipush, v_sipush, v_lconst0, v_lconst1, v_ldc, v_ldcw, v_ldc2, v_iload0, v_iload1, v_iload2, v_iload3, v_iload, v_lload0, v_lload1, v_lload2, v_lload3, v_lload, v_aload0, v_aload1, v_aload2, v_aload3, v_aload, v_istore0, v_istore1, v_istore2, v_istore3, v_istore, v_lstore0, v_lstore1, v_lstore2, v_lstore3, v_lstore, v_astore0, v_astore1, v_astore2, v_astore3, v_astore, v_iinc, v_iadd, v_isub, v_imul, v_iand, v_ior, v_ixor, v_ishl, v_ishr, v_iushr, v_ineg, v_idiv, v_irem, v_ladd, v_lsub, v_lmul, v_lcmp, v_i2l, v_l2i, v_i2c, v_dup, v_dup2, v_if_eq, v_if_ne, v_if_lt, v_if_ge, v_if_gt, v_if_le, v_ic_eq, v_ic_ne, v_ic_lt, v_ic_ge, v_ic_gt, v_ic_le, v_goto, v_tsw, v_lsw, v_ireturn, v_areturn, v_return, v_iaload, v_laload, v_baload, v_caload, v_aaload, v_iastore, v_lastore, v_bastore, v_castore, v_alen, v_invvi, v_invst, v_invsp, e_int, e_lng, e_ref, e_lg0, e_lg1, e_lg2, e_lg3, e_lg4, e_lg5, e_lg6, e_lg7, e_lg8, e_lg9, e_lg10, e_lg11, e_lg12, e_lg13, e_clrI, e_clrJ, e_clrP, e_clrN, e_s0, e_s1, e_s2, e_s3, e_s4, e_s5, e_s6, e_s7, e_s8, e_s9, e_s10, e_s11, e_s12, e_s13, e_t0, e_t1, e_t2, e_t3, e_t4, e_t5, e_t6, e_t7, e_t8, e_t9, e_t10, e_t11, e_t12, e_t13, e_fd, e_kk, e_k0, e_k1, e_k2, e_k3, e_k4, e_k5, e_k6, e_k7, e_k8, e_k9, e_sv0, e_sv1, e_sv2, e_sv3, e_svc, e_pf0, e_pf1, e_pf2, e_pf3, e_ar, e_aa, e_al, e_sw1, e_sw2, e_ct0, e_ct1, e_ct2, e_cat0, e_cat1, e_rk0, e_rk1, e_rk2, e_inv0, e_inv1, e_inv2, e_inv3, e_inv4, e_inv5, e_inv6, e_o0, e_o1, e_cl, e_cle, e_cg, e_cge, e_ce, e_cr1, e_cr2, e_r, e_R, e_up, Int.cast_ofNat_Int, u_app, false_and, and_false, e_b0, e_b1, e_bn, e_bl, e_bu, Int.reduceLE, Int.reduceLT, Int.reduceEq, Int.reduceNeg, Int.reduceAdd, Int.reduceSub, Int.reduceMul, Nat.reduceLeDiff, Nat.reduceLT, Nat.reduceAdd, Nat.reduceEqDiff, true_and, and_true, true_or, or_true, false_or, or_false, forall_const, not_true_eq_false, not_false_eq_true, true_implies, false_implies, implies_true, and_self, zero_ne_one, one_ne_zero, eq_self, reduceIte, s_X8_holdDigits_0, b_X8_holdDigits_0, s_X8_holdDigits_4, b_X8_holdDigits_4, s_X8_holdDigits_15, b_X8_holdDigits_15, s_X8_holdDigits_26, b_X8_holdDigits_26, s_X8_holdDigits_54, b_X8_holdDigits_54, g_X8_21, g_X8_32, ld_X8_71, G_X8_holdDigits_50, sp_X7_isDigit_e, G_X8_holdDigits_53, sp_X7_byteAt_e, G_X8_holdDigits_43, sp_X8_hold_e, G_X8_holdDigits_72, sp_J9_min_7cf53_e, e0]
    have hk' : Rt none (c_hold μ 3 (c_cap (if m_dig (μ 14 i) then m_dg (μ 14) n (i + 1) (if 1000000 < v then v else v * 10 + μ 14 i - 48) else (i, v)).2) start) := hk
    have hc : (v ≤ 1000000 ∧ c_cap v = v) ∨ (1000000 < v ∧ c_cap v = 1000001) := by
      unfold c_cap
      by_cases c : 1000000 < v
      · rw [if_pos c]
        omega
      · rw [if_neg c]
        omega
    refine ⟨by omega, fun c => by omega, fun c => ⟨by omega, ht, fun c1 => ⟨h1, ?_⟩, fun c1 => ⟨by omega, ht, by omega, ?_⟩⟩⟩
    · rw [if_neg c1] at hk'
      exact hk'
    · have c1 := Classical.not_not.mp c1
      rw [if_pos c1] at hk'
      have := ih (i + 1) _ (by omega) (by omega) (by split <;> omega) hk'
      have e : c_cap (if 1000000 < v then v else v * 10 + μ 14 i - 48) = (if c_cap v * 10 + μ 14 i - 48 ≤ 1000001 then c_cap v * 10 + μ 14 i - 48 else 1000001) := by
        rcases hc with ⟨q1, q2⟩ | ⟨q1, q2⟩
        · rw [q2, if_neg (by omega)]
          unfold c_cap
          by_cases z : v * 10 + μ 14 i - 48 ≤ 1000000
          · rw [if_neg (by omega), if_pos (by omega)]
          · rw [if_pos (by omega)]
            by_cases z2 : v * 10 + μ 14 i - 48 ≤ 1000001
            · rw [if_pos z2]
              omega
            · rw [if_neg z2]
        · rw [q2, if_pos q1, q2, if_neg (by omega)]
      rw [e] at this
      exact this
set_option maxRecDepth 100000 in
set_option maxHeartbeats 4000000 in
theorem B_X8_holdDigits : q_Body cX8_holdDigits 4 u_X8_holdDigits fl_X8 ld_X8 G_X8_holdDigits q_T 4 s_X8_holdDigits sp_X8_holdDigits := by
  intro S Rt hR ra μ h
  obtain ⟨this, start, rfl, h⟩ := sp_X8_holdDigits_i h
  refine ⟨by simp [q_sl, q_ct], ?_⟩
  show S 0 [some (.inr (.inr this)), some (.inl start), none, none] [] μ
  obtain ⟨rfl, h1, h2, h3, hk⟩ := h
  refine hR 40 [] 0 _ _ _ rfl ?_
  simp only [v_opt_n, v_opt_s, v_nil, v_iconst, v_bipush, v_sipush, v_lconst0, v_lconst1, v_ldc, v_ldcw, v_ldc2, v_iload0, v_iload1, v_iload2, v_iload3, v_iload, v_lload0, v_lload1, v_lload2, v_lload3, v_lload, v_aload0, v_aload1, v_aload2, v_aload3, v_aload, v_istore0, v_istore1, v_istore2, v_istore3, v_istore, v_lstore0, v_lstore1, v_lstore2, v_lstore3, v_lstore, v_astore0, v_astore1, v_astore2, v_astore3, v_astore, v_iinc, v_iadd, v_isub, v_imul, v_iand, v_ior, v_ixor, v_ishl, v_ishr, v_iushr, v_ineg, v_idiv, v_irem, v_ladd, v_lsub, v_lmul, v_lcmp, v_i2l, v_l2i, v_i2c, v_dup, v_dup2, v_if_eq, v_if_ne, v_if_lt, v_if_ge, v_if_gt, v_if_le, v_ic_eq, v_ic_ne, v_ic_lt, v_ic_ge, v_ic_gt, v_ic_le, v_goto, v_tsw, v_lsw, v_ireturn, v_areturn, v_return, v_iaload, v_laload, v_baload, v_caload, v_aaload, v_iastore, v_lastore, v_bastore, v_castore, v_alen, v_invvi, v_invst, v_invsp, e_int, e_lng, e_ref, e_lg0, e_lg1, e_lg2, e_lg3, e_lg4, e_lg5, e_lg6, e_lg7, e_lg8, e_lg9, e_lg10, e_lg11, e_lg12, e_lg13, e_clrI, e_clrJ, e_clrP, e_clrN, e_s0, e_s1, e_s2, e_s3, e_s4, e_s5, e_s6, e_s7, e_s8, e_s9, e_s10, e_s11, e_s12, e_s13, e_t0, e_t1, e_t2, e_t3, e_t4, e_t5, e_t6, e_t7, e_t8, e_t9, e_t10, e_t11, e_t12, e_t13, e_fd, e_kk, e_k0, e_k1, e_k2, e_k3, e_k4, e_k5, e_k6, e_k7, e_k8, e_k9, e_sv0, e_sv1, e_sv2, e_sv3, e_svc, e_pf0, e_pf1, e_pf2, e_pf3, e_ar, e_aa, e_al, e_sw1, e_sw2, e_ct0, e_ct1, e_ct2, e_cat0, e_cat1, e_rk0, e_rk1, e_rk2, e_inv0, e_inv1, e_inv2, e_inv3, e_inv4, e_inv5, e_inv6, e_o0, e_o1, e_cl, e_cle, e_cg, e_cge, e_ce, e_cr1, e_cr2, e_r, e_R, e_up, Int.cast_ofNat_Int, u_app, false_and, and_false, e_b0, e_b1, e_bn, e_bl, e_bu, Int.reduceLE, Int.reduceLT, Int.reduceEq, Int.reduceNeg, Int.reduceAdd, Int.reduceSub, Int.reduceMul, Nat.reduceLeDiff, Nat.reduceLT, Nat.reduceAdd, Nat.reduceEqDiff, true_and, and_true, true_or, or_true, false_or, or_false, forall_const, not_true_eq_false, not_false_eq_true, true_implies, false_implies, implies_true, and_self, zero_ne_one, one_ne_zero, eq_self, reduceIte, s_X8_holdDigits_0, b_X8_holdDigits_0, s_X8_holdDigits_4, b_X8_holdDigits_4, s_X8_holdDigits_15, b_X8_holdDigits_15, s_X8_holdDigits_26, b_X8_holdDigits_26, s_X8_holdDigits_54, b_X8_holdDigits_54, g_X8_21, g_X8_32, ld_X8_71, G_X8_holdDigits_50, sp_X7_isDigit_e, G_X8_holdDigits_53, sp_X7_byteAt_e, G_X8_holdDigits_43, sp_X8_hold_e, G_X8_holdDigits_72, sp_J9_min_7cf53_e]
  have := hd_4 hR (start := start) h1 h2 (μ 13 1 - start).toNat start 0 h3.1 (by omega) (by omega) hk
  exact this
set_option maxRecDepth 100000 in
theorem C_X8_holdDigits {l : Launch} {ad : Int → Nat} {D : va_G} {cy : Nat → ClassId} {Z : State → Prop} (hZ : q_Zg ad Z) : q_Ct l q_T q_N ad D cy Z yX8_holdDigits cX8_holdDigits 4 none rm_X8_holdDigits sp_X8_holdDigits := by
  obtain ⟨hf, hg, hld⟩ := q_chkS k_X8_holdDigits
  refine q_met (rk := 4) q_wokT (by decide) rfl hf hg hld rfl (q_skS L_X8_holdDigits o_X8_holdDigits) ?_ ?_ ?_ ?_ B_X8_holdDigits
  · intro i hi; exact absurd hi List.not_mem_nil
  · intro i hi
    have hi : i = 50 ∨ i = 53 ∨ i = 43 := by simpa [u_X8_holdDigits] using hi
    rcases hi with rfl | rfl | rfl
    · exact q_crV hZ.1 (C_X7_isDigit hZ) rv_X7_isDigit cm_X7_isDigit (by decide +kernel) (by decide +kernel) (by decide +kernel) (by decide +kernel) (by decide +kernel) ⟨rfl, rfl⟩ (by decide)
    · exact q_crV hZ.1 (C_X7_byteAt hZ) rv_X7_byteAt cm_X7_byteAt (by decide +kernel) (by decide +kernel) (by decide +kernel) (by decide +kernel) (by decide +kernel) ⟨rfl, rfl⟩ (by decide)
    · exact q_crV hZ.1 (C_X8_hold hZ) rv_X8_hold cm_X8_hold (by decide +kernel) (by decide +kernel) (by decide +kernel) (by decide +kernel) (by decide +kernel) ⟨rfl, rfl⟩ (by decide)
  · intro i hi
    have hi : i = 72 := by simpa [u_X8_holdDigits] using hi
    rcases hi with rfl
    · exact q_crMin (by decide +kernel) (by decide)
  · intro i hi; exact absurd hi List.not_mem_nil
theorem rv_X8_holdDigits : q_rcv q_T yX8_holdDigits.cls sp_X8_holdDigits := by
  intro ra μ K h
  obtain ⟨this, start, rfl, h⟩ := sp_X8_holdDigits_i h
  obtain rfl := h.1
  exact ⟨[.inl start], 16, 8, _, _, rfl, T_16, rfl, rfl⟩
theorem cm_X8_holdDigits : Cond.code yX8_holdDigits cX8_holdDigits 4 none ∈ q_tb := by decide +kernel

