/-! the reference: the abstract tokens and the small methods of the reader -/
def m_tp (T : Int → Int) (L : Int) : Prop := (0 ≤ L ∧ L ≤ 300) ∧ ∀ j : Int, 0 ≤ j → j < L → 0 ≤ T j ∧ T j ≤ 255
/-- where the token i's reading begins -/
def m_pos (T : Int → Int) (L : Int) : Nat → Int
  | 0 => 0
  | i + 1 => (m_tw T L (m_pos T L i)).1
def m_pl (T : Int → Int) (L : Int) (i : Nat) : Int := m_st T L (m_pos T L i)
def m_so (T : Int → Int) (L : Int) (i : Nat) : Int := m_sort T L (m_pos T L i)
def m_wo (T : Int → Int) (L : Int) (i : Nat) : Int := (m_tw T L (m_pos T L i)).2
/-- which word it is -/
def m_wx (v : Int) : Int := if v = 20190388 then 0 else if v = 1156 then 1 else if v = 398963 then 2 else if v = 21279923 then 3 else if v = 12748404 then 4 else if v = 441972 then 5 else if v = 24385093 then 6 else if v = 23609 then 7 else if v = 294 then 8 else if v = 206220 then 9 else if v = 463922 then 10 else if v = 867781 then 11 else if v = 209399 then 12 else if v = 20141 then 13 else if v = 3659220 then 14 else -1
def m_kd (T : Int → Int) (L : Int) (i : Nat) : Int := if m_so T L i = 0 then 0 else if m_so T L i = 1 then (if m_pos T L (i + 1) - m_pl T L i = 1 then 1 else if m_wx (m_wo T L i) = -1 then 5 else 2) else if m_so T L i = 2 then 3 else 4
def m_cd (T : Int → Int) (L : Int) (i : Nat) : Int := if m_so T L i = 0 then 0 else if m_so T L i = 1 then (if m_pos T L (i + 1) - m_pl T L i = 1 then T (m_pl T L i) - 97 else if m_wx (m_wo T L i) = -1 then 0 else m_wx (m_wo T L i)) else if m_so T L i = 2 then (if 1000000 < m_wo T L i then 1000001 else m_wo T L i) else m_wo T L i
theorem m_wd_b (T : Int → Int) (st : Int) : ∀ (n : Nat) (p v : Int), st ≤ p → (-1 ≤ v ∧ v ≤ 1073741823 ∧ (p - st ≤ 0 → v = 0) ∧ (p - st ≤ 1 → v ≤ 26) ∧ (p - st ≤ 2 → v ≤ 1023) ∧ (p - st ≤ 3 → v ≤ 32767) ∧ (p - st ≤ 4 → v ≤ 1048575) ∧ (p - st ≤ 5 → v ≤ 33554431) ∧ (p - st < 7 → 0 ≤ v)) → (p ≤ (m_wd T st n p v).1 ∧ (m_wd T st n p v).1 ≤ p + n ∧ (n ≠ 0 → m_sml (T p) → p < (m_wd T st n p v).1)) ∧ -1 ≤ (m_wd T st n p v).2 ∧ (m_wd T st n p v).2 ≤ 1073741823 ∧ ((m_wd T st n p v).1 - st ≤ 1 → (m_wd T st n p v).2 ≤ 26)
  | 0, p, v => fun h1 h2 => by
    unfold m_wd
    dsimp only
    omega
  | n + 1, p, v => fun h1 h2 => by
    unfold m_wd
    by_cases c : m_sml (T p)
    · rw [if_pos c]
      have := m_wd_b T st n (p + 1) (if p - st < 6 then v * 32 + T p - 96 else -1) (by omega) (by split <;> omega)
      omega
    · rw [if_neg c]
      dsimp only
      omega
theorem m_dg_b (T : Int → Int) : ∀ (n : Nat) (p v : Int), (0 ≤ v ∧ v ≤ 10000009) → (p ≤ (m_dg T n p v).1 ∧ (m_dg T n p v).1 ≤ p + n ∧ (n ≠ 0 → m_dig (T p) → p < (m_dg T n p v).1)) ∧ 0 ≤ (m_dg T n p v).2 ∧ (m_dg T n p v).2 ≤ 10000009
  | 0, p, v => fun h2 => by
    unfold m_dg
    dsimp only
    omega
  | n + 1, p, v => fun h2 => by
    unfold m_dg
    by_cases c : m_dig (T p)
    · rw [if_pos c]
      have := m_dg_b T n (p + 1) (if 1000000 < v then v else v * 10 + T p - 48) (by split <;> omega)
      omega
    · rw [if_neg c]
      dsimp only
      omega
/-- one token, in order -/
theorem m_tw_b {T : Int → Int} {L p : Int} (ht : m_tp T L) (hp : 0 ≤ p ∧ p ≤ L) : (p ≤ m_st T L p ∧ m_st T L p ≤ (m_tw T L p).1 ∧ (m_tw T L p).1 ≤ L) ∧ ((m_sort T L p = 0 ∧ m_st T L p = L ∧ (m_tw T L p).1 = L ∧ (m_tw T L p).2 = 0) ∨ (m_sort T L p = 1 ∧ m_st T L p < L ∧ m_sml (T (m_st T L p)) ∧ m_st T L p < (m_tw T L p).1 ∧ -1 ≤ (m_tw T L p).2 ∧ (m_tw T L p).2 ≤ 1073741823 ∧ ((m_tw T L p).1 - m_st T L p = 1 → (m_tw T L p).2 ≤ 26)) ∨ (m_sort T L p = 2 ∧ m_st T L p < L ∧ m_dig (T (m_st T L p)) ∧ m_st T L p < (m_tw T L p).1 ∧ 0 ≤ (m_tw T L p).2 ∧ (m_tw T L p).2 ≤ 10000009) ∨ (m_sort T L p = 3 ∧ m_st T L p < L ∧ ¬ m_sml (T (m_st T L p)) ∧ ¬ m_dig (T (m_st T L p)) ∧ (m_tw T L p).1 = m_st T L p + 1 ∧ (m_tw T L p).2 = T (m_st T L p) ∧ 0 ≤ (m_tw T L p).2 ∧ (m_tw T L p).2 ≤ 255)) := by
  have h0 : p ≤ m_st T L p ∧ m_st T L p ≤ L := by
    have := m_skp_b T (L - p).toNat p
    unfold m_st
    omega
  have hT := ht.2 (m_st T L p) (by omega)
  by_cases c0 : m_st T L p = L
  · have e1 : m_sort T L p = 0 := by
      unfold m_sort
      rw [if_pos c0]
    have e2 : m_tw T L p = (m_st T L p, 0) := by
      unfold m_tw
      rw [e1]
      simp
    rw [e1, e2]
    dsimp only
    omega
  · by_cases c1 : m_sml (T (m_st T L p))
    · have e1 : m_sort T L p = 1 := by
        unfold m_sort
        rw [if_neg c0, if_pos c1]
      have e2 : m_tw T L p = m_wd T (m_st T L p) (L - m_st T L p).toNat (m_st T L p) 0 := by
        unfold m_tw
        rw [e1]
        simp
      have h1 := m_wd_b T (m_st T L p) (L - m_st T L p).toNat (m_st T L p) 0 (by omega) (by omega)
      have hn : (L - m_st T L p).toNat ≠ 0 := by omega
      have h2 := h1.1.2.2 hn c1
      rw [e1, e2]
      refine ⟨by omega, Or.inr (Or.inl ⟨rfl, by omega, c1, h2, by omega, by omega, by omega⟩)⟩
    · by_cases c2 : m_dig (T (m_st T L p))
      · have e1 : m_sort T L p = 2 := by
          unfold m_sort
          rw [if_neg c0, if_neg c1, if_pos c2]
        have e2 : m_tw T L p = m_dg T (L - m_st T L p).toNat (m_st T L p) 0 := by
          unfold m_tw
          rw [e1]
          simp
        have h1 := m_dg_b T (L - m_st T L p).toNat (m_st T L p) 0 (by omega)
        have hn : (L - m_st T L p).toNat ≠ 0 := by omega
        have h2 := h1.1.2.2 hn c2
        rw [e1, e2]
        refine ⟨by omega, Or.inr (Or.inr (Or.inl ⟨rfl, by omega, c2, h2, by omega, by omega⟩))⟩
      · have e1 : m_sort T L p = 3 := by
          unfold m_sort
          rw [if_neg c0, if_neg c1, if_neg c2]
        have e2 : m_tw T L p = (m_st T L p + 1, T (m_st T L p)) := by
          unfold m_tw
          rw [e1]
          simp
        have h1 := hT (by omega)
        rw [e1, e2]
        refine ⟨by dsimp only; omega, Or.inr (Or.inr (Or.inr ⟨rfl, by omega, c1, c2, rfl, rfl, h1.1, h1.2⟩))⟩
theorem m_pos_b {T : Int → Int} {L : Int} (ht : m_tp T L) : ∀ i : Nat, 0 ≤ m_pos T L i ∧ m_pos T L i ≤ L
  | 0 => by
    have := ht.1
    show 0 ≤ (0 : Int) ∧ (0 : Int) ≤ L
    omega
  | i + 1 => by
    have := m_tw_b ht (m_pos_b ht i)
    have h1 := m_pos_b ht i
    show 0 ≤ (m_tw T L (m_pos T L i)).1 ∧ (m_tw T L (m_pos T L i)).1 ≤ L
    omega
theorem m_tk_b {T : Int → Int} {L : Int} (ht : m_tp T L) (i : Nat) : (0 ≤ m_pos T L i ∧ m_pos T L i ≤ m_pl T L i ∧ m_pl T L i ≤ m_pos T L (i + 1) ∧ m_pos T L (i + 1) ≤ L) ∧ ((m_so T L i = 0 ∧ m_pl T L i = L ∧ m_pos T L (i + 1) = L ∧ m_wo T L i = 0) ∨ (m_so T L i = 1 ∧ m_pl T L i < L ∧ m_sml (T (m_pl T L i)) ∧ m_pl T L i < m_pos T L (i + 1) ∧ -1 ≤ m_wo T L i ∧ m_wo T L i ≤ 1073741823 ∧ (m_pos T L (i + 1) - m_pl T L i = 1 → m_wo T L i ≤ 26)) ∨ (m_so T L i = 2 ∧ m_pl T L i < L ∧ m_dig (T (m_pl T L i)) ∧ m_pl T L i < m_pos T L (i + 1) ∧ 0 ≤ m_wo T L i ∧ m_wo T L i ≤ 10000009) ∨ (m_so T L i = 3 ∧ m_pl T L i < L ∧ ¬ m_sml (T (m_pl T L i)) ∧ ¬ m_dig (T (m_pl T L i)) ∧ m_pos T L (i + 1) = m_pl T L i + 1 ∧ m_wo T L i = T (m_pl T L i) ∧ 0 ≤ m_wo T L i ∧ m_wo T L i ≤ 255)) := by
  have h1 := m_pos_b ht i
  have h2 := m_tw_b ht h1
  refine ⟨⟨h1.1, ?_, ?_, ?_⟩, h2.2⟩
  · exact h2.1.1
  · exact h2.1.2.1
  · exact h2.1.2.2
theorem m_wx_b (v : Int) : -1 ≤ m_wx v ∧ m_wx v ≤ 14 ∧ (v ≤ 26 → m_wx v = -1) := by
  unfold m_wx
  (repeat' split) <;> omega
theorem m_tk_k (T : Int → Int) (L : Int) (i : Nat) : (m_so T L i = 0 → m_kd T L i = 0 ∧ m_cd T L i = 0) ∧ (m_so T L i = 1 → m_pos T L (i + 1) - m_pl T L i = 1 → m_kd T L i = 1 ∧ m_cd T L i = T (m_pl T L i) - 97) ∧ (m_so T L i = 1 → ¬ m_pos T L (i + 1) - m_pl T L i = 1 → m_wx (m_wo T L i) = -1 → m_kd T L i = 5 ∧ m_cd T L i = 0) ∧ (m_so T L i = 1 → ¬ m_pos T L (i + 1) - m_pl T L i = 1 → ¬ m_wx (m_wo T L i) = -1 → m_kd T L i = 2 ∧ m_cd T L i = m_wx (m_wo T L i)) ∧ (m_so T L i = 2 → m_kd T L i = 3 ∧ (1000000 < m_wo T L i → m_cd T L i = 1000001) ∧ (m_wo T L i ≤ 1000000 → m_cd T L i = m_wo T L i)) ∧ (m_so T L i = 3 → m_kd T L i = 4 ∧ m_cd T L i = m_wo T L i) := by
  unfold m_kd m_cd
  refine ⟨fun c => ?_, fun c d => ?_, fun c d e => ?_, fun c d e => ?_, fun c => ?_, fun c => ?_⟩
  · simp only [c, if_true, and_self]
  · simp [c, d]
  · simp [c, d, e]
  · simp [c, d, e]
  · simp [c]
    omega
  · simp [c]
/-- the reader's state: at token s.2; s.1 is 1 after a fault there -/
def m_att (T : Int → Int) (L : Int) (i : Nat) (μ : QM) : Prop := μ 85 32 = m_pl T L i ∧ μ 85 33 = m_pos T L (i + 1) ∧ μ 85 34 = m_so T L i ∧ μ 85 35 = m_wo T L i
def m_ps (T : Int → Int) (L : Int) (s : Int × Nat) (μ : QM) : Prop := μ 105 = T ∧ μ 85 31 = L ∧ μ 85 37 = s.1 ∧ (s.1 = 0 ∨ s.1 = 1) ∧ μ 85 36 = (if s.1 = 1 then m_pl T L s.2 else -1) ∧ m_att T L s.2 μ
def m_f6 (μ ν : QM) : Prop := ∀ a j : Int, ¬ (a = 85 ∧ 32 ≤ j ∧ j ≤ 37) → ν a j = μ a j
def m_ms (s : Int × Nat) (is : Int) : Int × Nat := if s.1 = 1 then s else if is = 1 then (0, s.2 + 1) else (1, s.2)
theorem m_nxt_ps {T : Int → Int} {L : Int} {i : Nat} {μ : QM} (hp : m_ps T L (0, i) μ) : m_ps T L (0, i + 1) (m_nxt μ) ∧ m_f6 μ (m_nxt μ) := by
  obtain ⟨h1, h2, h3, h4, h5, h6, h7, h8, h9⟩ := hp
  refine ⟨⟨?_, ?_, ?_, Or.inl rfl, ?_, ?_, ?_, ?_, ?_⟩, ?_⟩
  · funext j
    unfold m_nxt
    rw [tk_rd.1 j, h1]
  · unfold m_nxt
    rw [tk_rd.2.1, h2]
  · rw [← h3]
    unfold m_nxt
    simp [u_tok]
  · refine Eq.trans ?_ h5
    unfold m_nxt
    simp [u_tok]
  · unfold m_nxt
    rw [tk_rd.2.2.1, h1, h2, h7]
    rfl
  · unfold m_nxt
    rw [tk_rd.2.2.2.1, h1, h2, h7]
    rfl
  · unfold m_nxt
    rw [tk_rd.2.2.2.2.1, h1, h2, h7]
    rfl
  · unfold m_nxt
    rw [tk_rd.2.2.2.2.2, h1, h2, h7]
    rfl
  · intro a j hn
    unfold m_nxt
    rw [u_tok, if_neg (by omega), if_neg (by omega), if_neg (by omega), if_neg (by omega)]
theorem m_ps_tap {T : Int → Int} {L : Int} {s : Int × Nat} {μ : QM} (ht : m_tp T L) (hp : m_ps T L s μ) : m_tap μ ∧ (0 ≤ μ 85 33 ∧ μ 85 33 ≤ μ 85 31) := by
  obtain ⟨h1, h2, h3, h4, h5, h6, h7, h8, h9⟩ := hp
  have := m_tk_b ht s.2
  refine ⟨?_, ?_⟩
  · unfold m_tap
    rw [h1, h2]
    exact ht
  · rw [h7, h2]
    omega
def sp_X11_must : QP := fun ra μ K => match ra with
  | [.inl is, .inr (.inr this)] => this = 85 ∧ (is = 0 ∨ is = 1) ∧ ∃ (T : Int → Int) (L : Int) (s : Int × Nat), m_tp T L ∧ m_ps T L s μ ∧ ∀ ν : QM, m_f6 μ ν → m_ps T L (m_ms s is) ν → K none ν
  | _ => False
theorem sp_X11_must_e (this is : Int) (μ : QM) (K : Option QV → QM → Prop) : sp_X11_must [.inl is, .inr (.inr this)] μ K = (this = 85 ∧ (is = 0 ∨ is = 1) ∧ ∃ (T : Int → Int) (L : Int) (s : Int × Nat), m_tp T L ∧ m_ps T L s μ ∧ ∀ ν : QM, m_f6 μ ν → m_ps T L (m_ms s is) ν → K none ν) := propext Iff.rfl
theorem sp_X11_must_i {ra : List QV} {μ : QM} {K : Option QV → QM → Prop} (h : sp_X11_must ra μ K) : ∃ this is : Int, ra = [.inl is, .inr (.inr this)] ∧ (this = 85 ∧ (is = 0 ∨ is = 1) ∧ ∃ (T : Int → Int) (L : Int) (s : Int × Nat), m_tp T L ∧ m_ps T L s μ ∧ ∀ ν : QM, m_f6 μ ν → m_ps T L (m_ms s is) ν → K none ν) := by
  unfold sp_X11_must at h
  split at h
  · exact ⟨_, _, rfl, h⟩
  · exact h.elim
def rm_X11_must : Room := { frames := 2, cells := 0, slots := 0, locals := 40 }
def G_X11_must : Nat → Nat × QP := fun i => match i with
  | 254 => (1, sp_X11_next)
  | _ => (0, fun _ _ _ => False)
theorem G_X11_must_254 : G_X11_must 254 = (1, sp_X11_next) := id rfl
set_option maxRecDepth 100000 in
set_option maxHeartbeats 4000000 in
theorem B_X11_must : q_Body cX11_must 2 u_X11_must fl_X11 ld_X11 G_X11_must q_T 4 s_X11_must sp_X11_must := by
  intro S Rt hR ra μ h
  obtain ⟨this, is, rfl, h⟩ := sp_X11_must_i h
  refine ⟨by simp [q_sl, q_ct], ?_⟩
  show S 0 [some (.inr (.inr this)), some (.inl is)] [] μ
  obtain ⟨rfl, h1, T, L, s, ht, hp, hk⟩ := h
  obtain ⟨p1, p2, p3, p4, p5, p6, p7, p8, p9⟩ := id hp
  have hm := m_ps_tap ht hp
  have hb := m_tk_b ht s.2
  refine hR 40 [] 0 _ _ _ rfl ?_
  simp only [v_opt_n, v_opt_s, v_nil, v_iconst, v_bipush, v_sipush, v_lconst0, v_lconst1, v_ldc, v_ldcw, v_ldc2, v_iload0, v_iload1, v_iload2, v_iload3, v_iload, v_lload0, v_lload1, v_lload2, v_lload3, v_lload, v_aload0, v_aload1, v_aload2, v_aload3, v_aload, v_istore0, v_istore1, v_istore2, v_istore3, v_istore, v_lstore0, v_lstore1, v_lstore2, v_lstore3, v_lstore, v_astore0, v_astore1, v_astore2, v_astore3, v_astore, v_iinc, v_iadd, v_isub, v_imul, v_iand, v_ior, v_ixor, v_ishl, v_ishr, v_iushr, v_ineg, v_idiv, v_irem, v_ladd, v_lsub, v_lmul, v_lcmp, v_i2l, v_l2i, v_i2c, v_dup, v_dup2, v_if_eq, v_if_ne, v_if_lt, v_if_ge, v_if_gt, v_if_le, v_ic_eq, v_ic_ne, v_ic_lt, v_ic_ge, v_ic_gt, v_ic_le, v_goto, v_tsw, v_lsw, v_ireturn, v_areturn, v_return, v_iaload, v_laload, v_baload, v_caload, v_aaload, v_iastore, v_lastore, v_bastore, v_castore, v_alen, v_invvi, v_invst, v_invsp, e_int, e_lng, e_ref, e_lg0, e_lg1, e_lg2, e_lg3, e_lg4, e_lg5, e_lg6, e_lg7, e_lg8, e_lg9, e_lg10, e_lg11, e_lg12, e_lg13, e_clrI, e_clrJ, e_clrP, e_clrN, e_s0, e_s1, e_s2, e_s3, e_s4, e_s5, e_s6, e_s7, e_s8, e_s9, e_s10, e_s11, e_s12, e_s13, e_t0, e_t1, e_t2, e_t3, e_t4, e_t5, e_t6, e_t7, e_t8, e_t9, e_t10, e_t11, e_t12, e_t13, e_fd, e_kk, e_k0, e_k1, e_k2, e_k3, e_k4, e_k5, e_k6, e_k7, e_k8, e_k9, e_sv0, e_sv1, e_sv2, e_sv3, e_svc, e_pf0, e_pf1, e_pf2, e_pf3, e_ar, e_aa, e_al, e_sw1, e_sw2, e_ct0, e_ct1, e_ct2, e_cat0, e_cat1, e_rk0, e_rk1, e_rk2, e_inv0, e_inv1, e_inv2, e_inv3, e_inv4, e_inv5, e_inv6, e_o0, e_o1, e_cl, e_cle, e_cg, e_cge, e_ce, e_cr1, e_cr2, e_r, e_R, e_up, Int.cast_ofNat_Int, u_app, false_and, and_false, e_b0, e_b1, e_bn, e_bl, e_bu, Int.reduceLE, Int.reduceLT, Int.reduceEq, Int.reduceNeg, Int.reduceAdd, Int.reduceSub, Int.reduceMul, Nat.reduceLeDiff, Nat.reduceLT, Nat.reduceAdd, Nat.reduceEqDiff, true_and, and_true, true_or, or_true, false_or, or_false, forall_const, not_true_eq_false, not_false_eq_true, true_implies, false_implies, implies_true, and_self, zero_ne_one, one_ne_zero, eq_self, reduceIte, s_X11_must_0, b_X11_must_0, s_X11_must_7, b_X11_must_7, s_X11_must_11, b_X11_must_11, s_X11_must_24, b_X11_must_24, s_X11_must_31, b_X11_must_31, s_X11_must_35, b_X11_must_35, g_X11_250, p_X11_250, g_X11_227, g_X11_79, p_X11_79, G_X11_must_254, sp_X11_next_e, p3]
  refine ⟨by omega, fun c => ⟨by omega, fun _ => hk μ (fun _ _ _ => rfl) ?_, fun c1 => by omega⟩, fun c => ⟨by omega, fun c1 => ⟨by omega, fun c2 => by omega, fun c2 => ⟨hm.1, hm.2, ?_⟩⟩, fun c1 => hk _ ?_ ?_⟩⟩
  · unfold m_ms
    rw [if_pos (by omega)]
    exact hp
  · obtain ⟨i, j⟩ := s
    obtain rfl : i = 0 := c
    have := m_nxt_ps hp
    refine hk _ this.2 ?_
    unfold m_ms
    rw [if_neg (by simp), if_pos (by omega)]
    exact this.1
  · intro a j hn
    rw [u_app, if_neg (by omega), u_app, if_neg (by omega)]
  · unfold m_ms
    rw [if_neg (by omega), if_neg (by omega)]
    refine ⟨?_, ?_, ?_, Or.inr rfl, ?_, ?_, ?_, ?_, ?_⟩
    · funext j
      simp [u_app, p1]
    all_goals simp [u_app, p2, p6, p7, p8, p9]
set_option maxRecDepth 100000 in
theorem C_X11_must {l : Launch} {ad : Int → Nat} {D : va_G} {cy : Nat → ClassId} {Z : State → Prop} (hZ : q_Zg ad Z) : q_Ct l q_T q_N ad D cy Z yX11_must cX11_must 2 none rm_X11_must sp_X11_must := by
  obtain ⟨hf, hg, hld⟩ := q_chkS k_X11_must
  refine q_met (rk := 4) q_wokT (by decide) rfl hf hg hld rfl (q_skS L_X11_must o_X11_must) ?_ ?_ ?_ ?_ B_X11_must
  · intro i hi; exact absurd hi List.not_mem_nil
  · intro i hi
    have hi : i = 254 := by simpa [u_X11_must] using hi
    rcases hi with rfl
    · exact q_crV hZ.1 (C_X11_next hZ) rv_X11_next cm_X11_next (by decide +kernel) (by decide +kernel) (by decide +kernel) (by decide +kernel) (by decide +kernel) ⟨rfl, rfl⟩ (by decide)
  · intro i hi; exact absurd hi List.not_mem_nil
  · intro i hi; exact absurd hi List.not_mem_nil
theorem rv_X11_must : q_rcv q_T yX11_must.cls sp_X11_must := by
  intro ra μ K h
  obtain ⟨this, is, rfl, h⟩ := sp_X11_must_i h
  obtain rfl := h.1
  exact ⟨[.inl is], 85, 11, _, _, rfl, T_85, rfl, rfl⟩
theorem cm_X11_must : Cond.code yX11_must cX11_must 2 none ∈ q_tb := by decide +kernel
def sp_X11_number : QP := fun ra μ K => match ra with
  | [.inr (.inl most2), .inr (.inl low), .inr (.inr this)] => this = 85 ∧ (0 ≤ low ∧ low ≤ most2 ∧ most2 ≤ 1000000) ∧ ∃ (T : Int → Int) (L : Int) (s : Int × Nat), m_tp T L ∧ m_ps T L s μ ∧ ∀ (ν : QM) (v : Int), m_f6 μ ν → m_ps T L (m_ms s (q_b (m_kd T L s.2 = 3 ∧ low ≤ m_cd T L s.2 ∧ m_cd T L s.2 ≤ most2))) ν → (m_kd T L s.2 = 3 ∧ low ≤ m_cd T L s.2 ∧ m_cd T L s.2 ≤ most2 → v = m_cd T L s.2) → K (some (.inl v)) ν
  | _ => False
theorem sp_X11_number_e (this low most2 : Int) (μ : QM) (K : Option QV → QM → Prop) : sp_X11_number [.inr (.inl most2), .inr (.inl low), .inr (.inr this)] μ K = (this = 85 ∧ (0 ≤ low ∧ low ≤ most2 ∧ most2 ≤ 1000000) ∧ ∃ (T : Int → Int) (L : Int) (s : Int × Nat), m_tp T L ∧ m_ps T L s μ ∧ ∀ (ν : QM) (v : Int), m_f6 μ ν → m_ps T L (m_ms s (q_b (m_kd T L s.2 = 3 ∧ low ≤ m_cd T L s.2 ∧ m_cd T L s.2 ≤ most2))) ν → (m_kd T L s.2 = 3 ∧ low ≤ m_cd T L s.2 ∧ m_cd T L s.2 ≤ most2 → v = m_cd T L s.2) → K (some (.inl v)) ν) := propext Iff.rfl
theorem sp_X11_number_i {ra : List QV} {μ : QM} {K : Option QV → QM → Prop} (h : sp_X11_number ra μ K) : ∃ this low most2 : Int, ra = [.inr (.inl most2), .inr (.inl low), .inr (.inr this)] ∧ (this = 85 ∧ (0 ≤ low ∧ low ≤ most2 ∧ most2 ≤ 1000000) ∧ ∃ (T : Int → Int) (L : Int) (s : Int × Nat), m_tp T L ∧ m_ps T L s μ ∧ ∀ (ν : QM) (v : Int), m_f6 μ ν → m_ps T L (m_ms s (q_b (m_kd T L s.2 = 3 ∧ low ≤ m_cd T L s.2 ∧ m_cd T L s.2 ≤ most2))) ν → (m_kd T L s.2 = 3 ∧ low ≤ m_cd T L s.2 ∧ m_cd T L s.2 ≤ most2 → v = m_cd T L s.2) → K (some (.inl v)) ν) := by
  unfold sp_X11_number at h
  split at h
  · exact ⟨_, _, _, rfl, h⟩
  · exact h.elim
def rm_X11_number : Room := { frames := 3, cells := 0, slots := 0, locals := 61 }
def G_X11_number : Nat → Nat × QP := fun i => match i with
  | 257 => (2, sp_X11_must)
  | 95 => (3, sp_X11_in)
  | _ => (0, fun _ _ _ => False)
theorem G_X11_number_257 : G_X11_number 257 = (2, sp_X11_must) := id rfl
theorem G_X11_number_95 : G_X11_number 95 = (3, sp_X11_in) := id rfl
theorem m_num {T : Int → Int} {L : Int} (ht : m_tp T L) {low most : Int} (h1 : 0 ≤ low ∧ low ≤ most ∧ most ≤ 1000000) (i : Nat) : ((m_kd T L i = 3 ∧ low ≤ m_cd T L i ∧ m_cd T L i ≤ most) ↔ (m_so T L i = 2 ∧ low ≤ m_wo T L i ∧ m_wo T L i ≤ most)) ∧ (m_kd T L i = 3 ∧ low ≤ m_cd T L i ∧ m_cd T L i ≤ most → m_wo T L i = m_cd T L i) := by
  have hb := m_tk_b ht i
  have hx := m_tk_k T L i
  refine ⟨⟨fun q => ?_, fun q => ?_⟩, fun q => ?_⟩ <;> omega
set_option maxRecDepth 100000 in
set_option maxHeartbeats 4000000 in
theorem B_X11_number : q_Body cX11_number 6 u_X11_number fl_X11 ld_X11 G_X11_number q_T 0 s_X11_number sp_X11_number := by
  intro S Rt hR ra μ h
  obtain ⟨this, low, most2, rfl, h⟩ := sp_X11_number_i h
  refine ⟨by simp [q_sl, q_ct], ?_⟩
  show S 0 [some (.inr (.inr this)), some (.inr (.inl low)), none, some (.inr (.inl most2)), none, none] [] μ
  obtain ⟨rfl, h1, T, L, s, ht, hp, hk⟩ := h
  obtain ⟨p1, p2, p3, p4, p5, p6, p7, p8, p9⟩ := id hp
  have hb := m_tk_b ht s.2
  obtain ⟨n1, n2⟩ := m_num ht h1 s.2
  refine hR 40 [] 0 _ _ _ rfl ?_
  simp only [v_opt_n, v_opt_s, v_nil, v_iconst, v_bipush, v_sipush, v_lconst0, v_lconst1, v_ldc, v_ldcw, v_ldc2, v_iload0, v_iload1, v_iload2, v_iload3, v_iload, v_lload0, v_lload1, v_lload2, v_lload3, v_lload, v_aload0, v_aload1, v_aload2, v_aload3, v_aload, v_istore0, v_istore1, v_istore2, v_istore3, v_istore, v_lstore0, v_lstore1, v_lstore2, v_lstore3, v_lstore, v_astore0, v_astore1, v_astore2, v_astore3, v_astore, v_iinc, v_iadd, v_isub, v_imul, v_iand, v_ior, v_ixor, v_ishl, v_ishr, v_iushr, v_ineg, v_idiv, v_irem, v_ladd, v_lsub, v_lmul, v_lcmp, v_i2l, v_l2i, v_i2c, v_dup, v_dup2, v_if_eq, v_if_ne, v_if_lt, v_if_ge, v_if_gt, v_if_le, v_ic_eq, v_ic_ne, v_ic_lt, v_ic_ge, v_ic_gt, v_ic_le, v_goto, v_tsw, v_lsw, v_ireturn, v_areturn, v_return, v_iaload, v_laload, v_baload, v_caload, v_aaload, v_iastore, v_lastore, v_bastore, v_castore, v_alen, v_invvi, v_invst, v_invsp, e_int, e_lng, e_ref, e_lg0, e_lg1, e_lg2, e_lg3, e_lg4, e_lg5, e_lg6, e_lg7, e_lg8, e_lg9, e_lg10, e_lg11, e_lg12, e_lg13, e_clrI, e_clrJ, e_clrP, e_clrN, e_s0, e_s1, e_s2, e_s3, e_s4, e_s5, e_s6, e_s7, e_s8, e_s9, e_s10, e_s11, e_s12, e_s13, e_t0, e_t1, e_t2, e_t3, e_t4, e_t5, e_t6, e_t7, e_t8, e_t9, e_t10, e_t11, e_t12, e_t13, e_fd, e_kk, e_k0, e_k1, e_k2, e_k3, e_k4, e_k5, e_k6, e_k7, e_k8, e_k9, e_sv0, e_sv1, e_sv2, e_sv3, e_svc, e_pf0, e_pf1, e_pf2, e_pf3, e_ar, e_aa, e_al, e_sw1, e_sw2, e_ct0, e_ct1, e_ct2, e_cat0, e_cat1, e_rk0, e_rk1, e_rk2, e_inv0, e_inv1, e_inv2, e_inv3, e_inv4, e_inv5, e_inv6, e_o0, e_o1, e_cl, e_cle, e_cg, e_cge, e_ce, e_cr1, e_cr2, e_r, e_R, e_up, Int.cast_ofNat_Int, u_app, false_and, and_false, e_b0, e_b1, e_bn, e_bl, e_bu, Int.reduceLE, Int.reduceLT, Int.reduceEq, Int.reduceNeg, Int.reduceAdd, Int.reduceSub, Int.reduceMul, Nat.reduceLeDiff, Nat.reduceLT, Nat.reduceAdd, Nat.reduceEqDiff, true_and, and_true, true_or, or_true, false_or, or_false, forall_const, not_true_eq_false, not_false_eq_true, true_implies, false_implies, implies_true, and_self, zero_ne_one, one_ne_zero, eq_self, reduceIte, s_X11_number_0, b_X11_number_0, s_X11_number_16, b_X11_number_16, s_X11_number_28, b_X11_number_28, s_X11_number_32, b_X11_number_32, s_X11_number_33, b_X11_number_33, g_X11_230, g_X11_239, G_X11_number_257, sp_X11_must_e, G_X11_number_95, sp_X11_in_e, p8, p9]
  refine ⟨by omega, fun c => ?_, fun c => ⟨by omega, fun c1 => ?_, fun c1 => ?_⟩⟩
  · refine ⟨T, L, s, ht, hp, fun ν hf hq => hk ν _ hf ?_ (fun q => absurd (n1.mp q).1 c)⟩
    rw [show q_b (m_kd T L s.2 = 3 ∧ low ≤ m_cd T L s.2 ∧ m_cd T L s.2 ≤ most2) = 0 from if_neg (fun q => c (n1.mp q).1)]
    exact hq
  · refine ⟨T, L, s, ht, hp, fun ν hf hq => hk ν _ hf ?_ (fun q => absurd (n1.mp q).2 c1)⟩
    rw [show q_b (m_kd T L s.2 = 3 ∧ low ≤ m_cd T L s.2 ∧ m_cd T L s.2 ≤ most2) = 0 from if_neg (fun q => c1 (n1.mp q).2)]
    exact hq
  · have c2 := n1.mpr ⟨c, Classical.not_not.mp c1⟩
    refine ⟨T, L, s, ht, hp, fun ν hf hq => hk ν _ hf ?_ n2⟩
    rw [show q_b (m_kd T L s.2 = 3 ∧ low ≤ m_cd T L s.2 ∧ m_cd T L s.2 ≤ most2) = 1 from if_pos c2]
    exact hq
set_option maxRecDepth 100000 in
theorem C_X11_number {l : Launch} {ad : Int → Nat} {D : va_G} {cy : Nat → ClassId} {Z : State → Prop} (hZ : q_Zg ad Z) : q_Ct l q_T q_N ad D cy Z yX11_number cX11_number 6 (some .int) rm_X11_number sp_X11_number := by
  obtain ⟨hf, hg, hld⟩ := q_chkS k_X11_number
  refine q_met (rk := 0) q_wokT (by decide) rfl hf hg hld rfl (q_skS L_X11_number o_X11_number) ?_ ?_ ?_ ?_ B_X11_number
  · intro i hi; exact absurd hi List.not_mem_nil
  · intro i hi
    have hi : i = 257 := by simpa [u_X11_number] using hi
    rcases hi with rfl
    · exact q_crV hZ.1 (C_X11_must hZ) rv_X11_must cm_X11_must (by decide +kernel) (by decide +kernel) (by decide +kernel) (by decide +kernel) (by decide +kernel) ⟨rfl, rfl⟩ (by decide)
  · intro i hi
    have hi : i = 95 := by simpa [u_X11_number] using hi
    rcases hi with rfl
    · exact q_crS hZ.1 (C_X11_in hZ) cm_X11_in (by decide +kernel) (by decide +kernel) (by decide +kernel) (by decide +kernel) ⟨rfl, rfl⟩ (by decide)
  · intro i hi; exact absurd hi List.not_mem_nil
theorem rv_X11_number : q_rcv q_T yX11_number.cls sp_X11_number := by
  intro ra μ K h
  obtain ⟨this, low, most2, rfl, h⟩ := sp_X11_number_i h
  obtain rfl := h.1
  exact ⟨[.inr (.inl most2), .inr (.inl low)], 85, 11, _, _, rfl, T_85, rfl, rfl⟩
theorem cm_X11_number : Cond.code yX11_number cX11_number 6 (some .int) ∈ q_tb := by decide +kernel

