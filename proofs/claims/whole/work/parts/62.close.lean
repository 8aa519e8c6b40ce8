/-! the class: lose -/
theorem c_oN_cg {n n' of : Int → Int} : ∀ k : Nat, (∀ i : Nat, i < k → n (of i) = n' (of i)) → c_oN n of k = c_oN n' of k
  | 0, _ => rfl
  | k + 1, h => by
    show q_or (c_oN n of k) (n (of k)) = q_or (c_oN n' of k) (n' (of k))
    rw [c_oN_cg k (fun i hi => h i (by omega)), h k (by omega)]
theorem c_lo_cg {w h : Int} {kd rn mn : Int → Int} {of : Int → Int → Int} {s t : Int} {n n' : Int → Int} {b : Int} (hm : 0 ≤ mn b) (hc : ∀ k : Int, 0 ≤ k → k < mn b → n (of b k) = n' (of b k)) : c_lo w h kd rn mn of s t n b = c_lo w h kd rn mn of s t n' b := by
  unfold c_lo
  rw [c_oN_cg (n := n) (n' := n') (mn b).toNat (fun i hi => hc i (by omega) (by omega))]
theorem c_oN_m2 {n of : Int → Int} : ∀ k : Nat, (∀ i : Nat, i < k → q_mk (n (of i))) → q_mk (c_oN n of k)
  | 0, _ => q_mk_0
  | k + 1, h => q_mk_or (c_oN_m2 k (fun i hi => h i (by omega))) (h k (by omega))
theorem c_lo_mk {w h : Int} {kd rn mn : Int → Int} {of : Int → Int → Int} {s t : Int} {n : Int → Int} {b : Int} (ht : q_mk t) (hm : 0 ≤ mn b) (hc : ∀ k : Int, 0 ≤ k → k < mn b → q_mk (n (of b k))) : q_mk (c_lo w h kd rn mn of s t n b) := by
  unfold c_lo
  split
  · split
    · exact ht
    · exact q_mk_0
  · exact q_mk_need (c_oN_m2 _ (fun i hi => hc i (by omega) (by omega)))
def sp_X9_lose : QP := fun ra μ K => match ra with
  | [.inl tile, .inl sheet, .inr (.inr this)] => this = 20 ∧ (q_r sheet ∧ 0 ≤ tile ∧ tile < 9) ∧ (∀ j : Int, 0 ≤ j → j < 10 → q_mk (μ 22 j)) ∧ ∃ P w h : Int, c_wk μ P w h (μ P 2) ∧ (0 ≤ μ P 2 ∧ μ P 2 ≤ 10) ∧ ∀ ν : QM, (∀ a j : Int, ¬ a = 21 → ¬ a = 22 → ν a j = μ a j) → (∀ b : Int, 0 ≤ b → b < μ P 2 → ν 22 b = c_lo w h (c_kM μ P) (c_rM μ P) (c_mM μ P) (c_oM μ P) sheet (q_shl 1 tile) (ν 22) b ∧ ν 21 b = q_and (μ 21 b) (q_xor (ν 22 b) (-1))) → (∀ b : Int, ¬ (0 ≤ b ∧ b < μ P 2) → ν 21 b = μ 21 b) → (∀ j : Int, 0 ≤ j → j < 10 → q_mk (ν 22 j)) → K none ν
  | _ => False
theorem sp_X9_lose_e (this sheet tile : Int) (μ : QM) (K : Option QV → QM → Prop) : sp_X9_lose [.inl tile, .inl sheet, .inr (.inr this)] μ K = (this = 20 ∧ (q_r sheet ∧ 0 ≤ tile ∧ tile < 9) ∧ (∀ j : Int, 0 ≤ j → j < 10 → q_mk (μ 22 j)) ∧ ∃ P w h : Int, c_wk μ P w h (μ P 2) ∧ (0 ≤ μ P 2 ∧ μ P 2 ≤ 10) ∧ ∀ ν : QM, (∀ a j : Int, ¬ a = 21 → ¬ a = 22 → ν a j = μ a j) → (∀ b : Int, 0 ≤ b → b < μ P 2 → ν 22 b = c_lo w h (c_kM μ P) (c_rM μ P) (c_mM μ P) (c_oM μ P) sheet (q_shl 1 tile) (ν 22) b ∧ ν 21 b = q_and (μ 21 b) (q_xor (ν 22 b) (-1))) → (∀ b : Int, ¬ (0 ≤ b ∧ b < μ P 2) → ν 21 b = μ 21 b) → (∀ j : Int, 0 ≤ j → j < 10 → q_mk (ν 22 j)) → K none ν) := propext Iff.rfl
theorem sp_X9_lose_i {ra : List QV} {μ : QM} {K : Option QV → QM → Prop} (h : sp_X9_lose ra μ K) : ∃ this sheet tile : Int, ra = [.inl tile, .inl sheet, .inr (.inr this)] ∧ (this = 20 ∧ (q_r sheet ∧ 0 ≤ tile ∧ tile < 9) ∧ (∀ j : Int, 0 ≤ j → j < 10 → q_mk (μ 22 j)) ∧ ∃ P w h : Int, c_wk μ P w h (μ P 2) ∧ (0 ≤ μ P 2 ∧ μ P 2 ≤ 10) ∧ ∀ ν : QM, (∀ a j : Int, ¬ a = 21 → ¬ a = 22 → ν a j = μ a j) → (∀ b : Int, 0 ≤ b → b < μ P 2 → ν 22 b = c_lo w h (c_kM μ P) (c_rM μ P) (c_mM μ P) (c_oM μ P) sheet (q_shl 1 tile) (ν 22) b ∧ ν 21 b = q_and (μ 21 b) (q_xor (ν 22 b) (-1))) → (∀ b : Int, ¬ (0 ≤ b ∧ b < μ P 2) → ν 21 b = μ 21 b) → (∀ j : Int, 0 ≤ j → j < 10 → q_mk (ν 22 j)) → K none ν) := by
  unfold sp_X9_lose at h
  split at h
  · exact ⟨_, _, _, rfl, h⟩
  · exact h.elim
def rm_X9_lose : Room := { frames := 3, cells := 0, slots := 0, locals := 69 }
def G_X9_lose : Nat → Nat × QP := fun i => match i with
  | 85 => (4, sp_X9_tilesFrom)
  | _ => (0, fun _ _ _ => False)
theorem G_X9_lose_85 : G_X9_lose 85 = (4, sp_X9_tilesFrom) := id rfl
theorem lo_2 {Rt : Option QV → QM → Prop} {S : Nat → QL → List QV → QM → Prop} (hR : q_Rule cX9_lose 4 u_X9_lose fl_X9 ld_X9 G_X9_lose q_T 4 s_X9_lose Rt S) {μ : QM} {s t P w h : Int} (hs : q_r s ∧ 0 ≤ t ∧ t < 9) (hw : c_wk μ P w h (μ P 2)) (hl : 0 ≤ μ P 2 ∧ μ P 2 ≤ 10) (hk : ∀ ν : QM, (∀ a j : Int, ¬ a = 21 → ¬ a = 22 → ν a j = μ a j) → (∀ b : Int, 0 ≤ b → b < μ P 2 → ν 22 b = c_lo w h (c_kM μ P) (c_rM μ P) (c_mM μ P) (c_oM μ P) s (q_shl 1 t) (ν 22) b ∧ ν 21 b = q_and (μ 21 b) (q_xor (ν 22 b) (-1))) → (∀ b : Int, ¬ (0 ≤ b ∧ b < μ P 2) → ν 21 b = μ 21 b) → (∀ j : Int, 0 ≤ j → j < 10 → q_mk (ν 22 j)) → Rt none ν) : ∀ (d : Nat) (b : Int) (ν : QM), 0 ≤ b → b + d = μ P 2 → (∀ a j : Int, ¬ a = 21 → ¬ a = 22 → ν a j = μ a j) → (∀ j : Int, 0 ≤ j → j < b → ν 22 j = c_lo w h (c_kM μ P) (c_rM μ P) (c_mM μ P) (c_oM μ P) s (q_shl 1 t) (ν 22) j ∧ ν 21 j = q_and (μ 21 j) (q_xor (ν 22 j) (-1))) → (∀ j : Int, ¬ (0 ≤ j ∧ j < b) → ν 21 j = μ 21 j) → (∀ j : Int, 0 ≤ j → j < 10 → q_mk (ν 22 j)) → S 2 [some (.inr (.inr 20)), some (.inl s), some (.inl t), some (.inl b)] [] ν := by
  intro d
  obtain ⟨hP, h5, htm, hr⟩ := hw
  have hTp := T_plan hP
  have hTr := T_recs hP
  have h0 : 0 ≤ P := by omega
  induction d with
  | zero =>
    intro b ν h1 h2 f i1 i2 i3
    obtain rfl : b = μ P 2 := by omega
    have e5 : ν 20 5 = P := (f 20 5 (by omega) (by omega)).trans h5
    have e2 : ν P 2 = μ P 2 := f P 2 (by omega) (by omega)
    refine hR 60 b_X9_lose_2 2 _ _ _ o_X9_lose_2 ?_
    simp only [v_opt_n, v_opt_s, v_nil, v_iconst, v_bipush, v_sipush, v_lconst0, v_lconst1, v_ldc, v_ldcw, v_ldc2, v_iload0, v_iload1, v_iload2, v_iload3, v_iload, v_lload0, v_lload1, v_lload2, v_lload3, v_lload, v_aload0, v_aload1, v_aload2, v_aload3, v_aload, v_istore0, v_istore1, v_istore2, v_istore3, v_istore, v_lstore0, v_lstore1, v_lstore2, v_lstore3, v_lstore, v_astore0, v_astore1, v_astore2, v_astore3, v_astore, v_iinc, v_iadd, v_isub, v_imul, v_iand, v_ior, v_ixor, v_ishl, v_ishr, v_iushr, v_ineg, v_idiv, v_irem, v_ladd, v_lsub, v_lmul, v_lcmp, v_i2l, v_l2i, v_i2c, v_dup, v_dup2, v_if_eq, v_if_ne, v_if_lt, v_if_ge, v_if_gt, v_if_le, v_ic_eq, v_ic_ne, v_ic_lt, v_ic_ge, v_ic_gt, v_ic_le, v_goto, v_tsw, v_lsw, v_ireturn, v_areturn, v_return, v_iaload, v_laload, v_baload, v_caload, v_aaload, v_iastore, v_lastore, v_bastore, v_castore, v_alen, v_invvi, v_invst, v_invsp, e_int, e_lng, e_ref, e_lg0, e_lg1, e_lg2, e_lg3, e_lg4, e_lg5, e_lg6, e_lg7, e_lg8, e_lg9, e_lg10, e_lg11, e_lg12, e_lg13, e_clrI, e_clrJ, e_clrP, e_clrN, e_s0, e_s1, e_s2, e_s3, e_s4, e_s5, e_s6, e_s7, e_s8, e_s9, e_s10, e_s11, e_s12, e_s13, e_t0, e_t1, e_t2, e_t3, e_t4, e_t5, e_t6, e_t7, e_t8, e_t9, e_t10, e_t11, e_t12, e_t13, e_fd, e_kk, e_k0, e_k1, e_k2, e_k3, e_k4, e_k5, e_k6, e_k7, e_k8, e_k9, e_sv0, e_sv1, e_sv2, e_sv3, e_svc, e_pf0, e_pf1, e_pf2, e_pf3, e_ar, e_aa, e_al, e_sw1, e_sw2, e_ct0, e_ct1, e_ct2, e_cat0, e_cat1, e_rk0, e_rk1, e_rk2, e_inv0, e_inv1, e_inv2, e_inv3, e_inv4, e_inv5, e_inv6, e_o0, e_o1, e_cl, e_cle, e_cg, e_cge, e_ce, e_cr1, e_cr2, e_r, e_R, e_up, Int.cast_ofNat_Int, u_app, false_and, and_false, e_b0, e_b1, e_bn, e_bl, e_bu, Int.reduceLE, Int.reduceLT, Int.reduceEq, Int.reduceNeg, Int.reduceAdd, Int.reduceSub, Int.reduceMul, Nat.reduceLeDiff, Nat.reduceLT, Nat.reduceAdd, Nat.reduceEqDiff, true_and, and_true, true_or, or_true, false_or, or_false, forall_const, not_true_eq_false, not_false_eq_true, true_implies, false_implies, implies_true, and_self, zero_ne_one, one_ne_zero, eq_self, reduceIte, v_getf, v_putf, s_X9_lose_0, b_X9_lose_0, s_X9_lose_2, b_X9_lose_2, s_X9_lose_13, b_X9_lose_13, s_X9_lose_59, b_X9_lose_59, fl_X9_27, T_20, fl_X9_82, fl_X9_15, fl_X9_67, fl_X9_9, G_X9_lose_85, sp_X9_tilesFrom_e, e5, hTp, e2]
    exact ⟨by omega, fun _ => hk ν f i1 i2 i3, fun c => absurd (Int.le_refl _) c⟩
  | succ d ih =>
    intro b ν h1 h2 f i1 i2 i3
    have e5 : ν 20 5 = P := (f 20 5 (by omega) (by omega)).trans h5
    have e2 : ν P 2 = μ P 2 := f P 2 (by omega) (by omega)
    obtain ⟨r1, r2, r3, r4, r5, r6⟩ := hr b (by omega) (by omega)
    have hrc : q_rc (P + 3 + b) := by omega
    have er : ∀ j : Int, ν (P + 3 + b) j = μ (P + 3 + b) j := fun j => f _ j (by omega) (by omega)
    have en : ν (P + 3 + b + 10) = μ (P + 3 + b + 10) := funext fun j => f _ j (by omega) (by omega)
    have e12 : ν 1 2 = q_tm w h := (f 1 2 (by omega) (by omega)).trans htm
    refine hR 60 b_X9_lose_2 2 _ _ _ o_X9_lose_2 ?_
    simp only [v_opt_n, v_opt_s, v_nil, v_iconst, v_bipush, v_sipush, v_lconst0, v_lconst1, v_ldc, v_ldcw, v_ldc2, v_iload0, v_iload1, v_iload2, v_iload3, v_iload, v_lload0, v_lload1, v_lload2, v_lload3, v_lload, v_aload0, v_aload1, v_aload2, v_aload3, v_aload, v_istore0, v_istore1, v_istore2, v_istore3, v_istore, v_lstore0, v_lstore1, v_lstore2, v_lstore3, v_lstore, v_astore0, v_astore1, v_astore2, v_astore3, v_astore, v_iinc, v_iadd, v_isub, v_imul, v_iand, v_ior, v_ixor, v_ishl, v_ishr, v_iushr, v_ineg, v_idiv, v_irem, v_ladd, v_lsub, v_lmul, v_lcmp, v_i2l, v_l2i, v_i2c, v_dup, v_dup2, v_if_eq, v_if_ne, v_if_lt, v_if_ge, v_if_gt, v_if_le, v_ic_eq, v_ic_ne, v_ic_lt, v_ic_ge, v_ic_gt, v_ic_le, v_goto, v_tsw, v_lsw, v_ireturn, v_areturn, v_return, v_iaload, v_laload, v_baload, v_caload, v_aaload, v_iastore, v_lastore, v_bastore, v_castore, v_alen, v_invvi, v_invst, v_invsp, e_int, e_lng, e_ref, e_lg0, e_lg1, e_lg2, e_lg3, e_lg4, e_lg5, e_lg6, e_lg7, e_lg8, e_lg9, e_lg10, e_lg11, e_lg12, e_lg13, e_clrI, e_clrJ, e_clrP, e_clrN, e_s0, e_s1, e_s2, e_s3, e_s4, e_s5, e_s6, e_s7, e_s8, e_s9, e_s10, e_s11, e_s12, e_s13, e_t0, e_t1, e_t2, e_t3, e_t4, e_t5, e_t6, e_t7, e_t8, e_t9, e_t10, e_t11, e_t12, e_t13, e_fd, e_kk, e_k0, e_k1, e_k2, e_k3, e_k4, e_k5, e_k6, e_k7, e_k8, e_k9, e_sv0, e_sv1, e_sv2, e_sv3, e_svc, e_pf0, e_pf1, e_pf2, e_pf3, e_ar, e_aa, e_al, e_sw1, e_sw2, e_ct0, e_ct1, e_ct2, e_cat0, e_cat1, e_rk0, e_rk1, e_rk2, e_inv0, e_inv1, e_inv2, e_inv3, e_inv4, e_inv5, e_inv6, e_o0, e_o1, e_cl, e_cle, e_cg, e_cge, e_ce, e_cr1, e_cr2, e_r, e_R, e_up, Int.cast_ofNat_Int, u_app, false_and, and_false, e_b0, e_b1, e_bn, e_bl, e_bu, Int.reduceLE, Int.reduceLT, Int.reduceEq, Int.reduceNeg, Int.reduceAdd, Int.reduceSub, Int.reduceMul, Nat.reduceLeDiff, Nat.reduceLT, Nat.reduceAdd, Nat.reduceEqDiff, true_and, and_true, true_or, or_true, false_or, or_false, forall_const, not_true_eq_false, not_false_eq_true, true_implies, false_implies, implies_true, and_self, zero_ne_one, one_ne_zero, eq_self, reduceIte, v_getf, v_putf, s_X9_lose_0, b_X9_lose_0, s_X9_lose_2, b_X9_lose_2, s_X9_lose_13, b_X9_lose_13, s_X9_lose_59, b_X9_lose_59, fl_X9_27, T_20, fl_X9_82, fl_X9_15, fl_X9_67, fl_X9_9, G_X9_lose_85, sp_X9_tilesFrom_e, e5, hTp, hTr, e2, T_22, T_21, er, en]
    have r2 : 0 ≤ μ (P + 3 + b) 1 ∧ μ (P + 3 + b) 1 ≤ 3 := r2
    refine ⟨by omega, fun c => by omega, fun c => ⟨h1, by omega, by omega, hrc, r1, r2, ⟨r6, hs.1⟩, fun k k0 k1 => ?_, i3, w, h, e12, h1, by omega, h1, by omega, h1, by omega, h1, by omega, ?_⟩⟩
    · have := r3 k k0 k1
      have this : 0 ≤ μ (P + 3 + b + 10) k ∧ μ (P + 3 + b + 10) k < b := this
      omega
    · generalize eX : (if μ (P + 3 + b) 2 = 0 then if μ (P + 3 + b) 4 = s then q_shl 1 t else 0 else q_need w h (μ (P + 3 + b) 2) (c_oN (ν 22) (μ (P + 3 + b + 10)) (μ (P + 3 + b) 1).toNat)) = X
      have eX : c_lo w h (c_kM μ P) (c_rM μ P) (c_mM μ P) (c_oM μ P) s (q_shl 1 t) (ν 22) b = X := eX
      have hX : q_mk X := by
        rw [← eX]
        refine c_lo_mk (q_mk_one hs.2.1 (by omega)) r2.1 (fun k k0 k1 => ?_)
        have := r3 k k0 k1
        exact i3 _ this.1 (by have := this.2; omega)
      have eM : ∀ j : Int, q_up (q_up ν 22 b X) 21 b (q_and (ν 21 b) (q_xor X (-1))) 22 j = if j = b then X else ν 22 j := fun j => by
        rw [u_app, if_neg (by omega), u_app]
        by_cases c2 : j = b
        · rw [if_pos ⟨rfl, c2⟩, if_pos c2]
        · rw [if_neg (fun q => c2 q.2), if_neg c2]
      refine ih (b + 1) _ (by omega) (by omega) (fun a j n1 n2 => ?_) (fun j j0 j1 => ?_) (fun j hj => ?_) (fun j j0 j1 => ?_)
      · rw [u_app, if_neg (by omega), u_app, if_neg (by omega)]
        exact f a j n1 n2
      · by_cases c2 : j = b
        · subst c2
          refine ⟨?_, ?_⟩
          · rw [eM, if_pos rfl]
            refine eX.symm.trans (c_lo_cg r2.1 (fun k k0 k1 => ?_))
            have := (r3 k k0 k1).2
            rw [eM, if_neg (by omega)]
          · rw [eM, if_pos rfl, u_app, if_pos ⟨rfl, rfl⟩, i2 j (by omega)]
        · obtain ⟨w1, w2⟩ := i1 j j0 (by omega)
          obtain ⟨t1, t2, t3, t4, t5, t6⟩ := hr j j0 (by omega)
          refine ⟨?_, ?_⟩
          · rw [eM, if_neg c2, w1]
            refine c_lo_cg t2.1 (fun k k0 k1 => ?_)
            have := (t3 k k0 k1).2
            rw [eM, if_neg (by omega)]
          · rw [eM, if_neg c2, u_app, if_neg (by omega), u_app, if_neg (by omega), w2]
      · rw [u_app, if_neg (by omega), u_app, if_neg (by omega)]
        exact i2 j (by omega)
      · rw [eM]
        by_cases c2 : j = b
        · rw [if_pos c2]
          exact hX
        · rw [if_neg c2]
          exact i3 j j0 j1
set_option maxRecDepth 100000 in
set_option maxHeartbeats 4000000 in
theorem B_X9_lose : q_Body cX9_lose 4 u_X9_lose fl_X9 ld_X9 G_X9_lose q_T 4 s_X9_lose sp_X9_lose := by
  intro S Rt hR ra μ h
  obtain ⟨this, sheet, tile, rfl, h⟩ := sp_X9_lose_i h
  refine ⟨by simp [q_sl, q_ct], ?_⟩
  show S 0 [some (.inr (.inr this)), some (.inl sheet), some (.inl tile), none] [] μ
  obtain ⟨rfl, h1, h2, P, w, h, hw, hl, hk⟩ := h
  refine hR 40 [] 0 _ _ _ rfl ?_
  simp only [v_opt_n, v_opt_s, v_nil, v_iconst, v_bipush, v_sipush, v_lconst0, v_lconst1, v_ldc, v_ldcw, v_ldc2, v_iload0, v_iload1, v_iload2, v_iload3, v_iload, v_lload0, v_lload1, v_lload2, v_lload3, v_lload, v_aload0, v_aload1, v_aload2, v_aload3, v_aload, v_istore0, v_istore1, v_istore2, v_istore3, v_istore, v_lstore0, v_lstore1, v_lstore2, v_lstore3, v_lstore, v_astore0, v_astore1, v_astore2, v_astore3, v_astore, v_iinc, v_iadd, v_isub, v_imul, v_iand, v_ior, v_ixor, v_ishl, v_ishr, v_iushr, v_ineg, v_idiv, v_irem, v_ladd, v_lsub, v_lmul, v_lcmp, v_i2l, v_l2i, v_i2c, v_dup, v_dup2, v_if_eq, v_if_ne, v_if_lt, v_if_ge, v_if_gt, v_if_le, v_ic_eq, v_ic_ne, v_ic_lt, v_ic_ge, v_ic_gt, v_ic_le, v_goto, v_tsw, v_lsw, v_ireturn, v_areturn, v_return, v_iaload, v_laload, v_baload, v_caload, v_aaload, v_iastore, v_lastore, v_bastore, v_castore, v_alen, v_invvi, v_invst, v_invsp, e_int, e_lng, e_ref, e_lg0, e_lg1, e_lg2, e_lg3, e_lg4, e_lg5, e_lg6, e_lg7, e_lg8, e_lg9, e_lg10, e_lg11, e_lg12, e_lg13, e_clrI, e_clrJ, e_clrP, e_clrN, e_s0, e_s1, e_s2, e_s3, e_s4, e_s5, e_s6, e_s7, e_s8, e_s9, e_s10, e_s11, e_s12, e_s13, e_t0, e_t1, e_t2, e_t3, e_t4, e_t5, e_t6, e_t7, e_t8, e_t9, e_t10, e_t11, e_t12, e_t13, e_fd, e_kk, e_k0, e_k1, e_k2, e_k3, e_k4, e_k5, e_k6, e_k7, e_k8, e_k9, e_sv0, e_sv1, e_sv2, e_sv3, e_svc, e_pf0, e_pf1, e_pf2, e_pf3, e_ar, e_aa, e_al, e_sw1, e_sw2, e_ct0, e_ct1, e_ct2, e_cat0, e_cat1, e_rk0, e_rk1, e_rk2, e_inv0, e_inv1, e_inv2, e_inv3, e_inv4, e_inv5, e_inv6, e_o0, e_o1, e_cl, e_cle, e_cg, e_cge, e_ce, e_cr1, e_cr2, e_r, e_R, e_up, Int.cast_ofNat_Int, u_app, false_and, and_false, e_b0, e_b1, e_bn, e_bl, e_bu, Int.reduceLE, Int.reduceLT, Int.reduceEq, Int.reduceNeg, Int.reduceAdd, Int.reduceSub, Int.reduceMul, Nat.reduceLeDiff, Nat.reduceLT, Nat.reduceAdd, Nat.reduceEqDiff, true_and, and_true, true_or, or_true, false_or, or_false, forall_const, not_true_eq_false, not_false_eq_true, true_implies, false_implies, implies_true, and_self, zero_ne_one, one_ne_zero, eq_self, reduceIte, v_getf, v_putf, s_X9_lose_0, b_X9_lose_0, s_X9_lose_2, b_X9_lose_2, s_X9_lose_13, b_X9_lose_13, s_X9_lose_59, b_X9_lose_59, fl_X9_27, T_20, fl_X9_82, fl_X9_15, fl_X9_67, fl_X9_9, G_X9_lose_85, sp_X9_tilesFrom_e]
  exact lo_2 hR h1 hw hl hk (μ P 2).toNat 0 μ (by omega) (by omega) (fun _ _ _ _ => rfl) (fun j j0 j1 => by omega) (fun _ _ => rfl) h2
set_option maxRecDepth 100000 in
theorem C_X9_lose {l : Launch} {ad : Int → Nat} {D : va_G} {cy : Nat → ClassId} {Z : State → Prop} (hZ : q_Zg ad Z) : q_Ct l q_T q_N ad D cy Z yX9_lose cX9_lose 4 none rm_X9_lose sp_X9_lose := by
  obtain ⟨hf, hg, hld⟩ := q_chkS k_X9_lose
  refine q_met (rk := 4) q_wokT (by decide) rfl hf hg hld rfl (q_skS L_X9_lose o_X9_lose) ?_ ?_ ?_ ?_ B_X9_lose
  · intro i hi; exact absurd hi List.not_mem_nil
  · intro i hi
    have hi : i = 85 := by simpa [u_X9_lose] using hi
    rcases hi with rfl
    · exact q_crV hZ.1 (C_X9_tilesFrom hZ) rv_X9_tilesFrom cm_X9_tilesFrom (by decide +kernel) (by decide +kernel) (by decide +kernel) (by decide +kernel) (by decide +kernel) ⟨rfl, rfl⟩ (by decide)
  · intro i hi; exact absurd hi List.not_mem_nil
  · intro i hi; exact absurd hi List.not_mem_nil
theorem rv_X9_lose : q_rcv q_T yX9_lose.cls sp_X9_lose := by
  intro ra μ K h
  obtain ⟨this, sheet, tile, rfl, h⟩ := sp_X9_lose_i h
  obtain rfl := h.1
  exact ⟨[.inl tile, .inl sheet], 20, 9, _, _, rfl, T_20, rfl, rfl⟩
theorem cm_X9_lose : Cond.code yX9_lose cX9_lose 4 none ∈ q_tb := by decide +kernel

