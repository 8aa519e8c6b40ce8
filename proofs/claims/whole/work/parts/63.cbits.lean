/-! Integer.bitCount of masks -/
def c_bc (m : Int) : Nat → Int
  | 0 => 0
  | n + 1 => c_bc m n + if q_bit m n = true then 1 else 0
theorem q_mk_512 {m : Int} (h : q_mk m) : m < 512 := by
  have h0 := q_mk_nn h
  have h1 := q_mk_le h
  obtain ⟨n, rfl⟩ : ∃ n : Nat, m = (n : Int) := ⟨m.toNat, by omega⟩
  have hn : n < 2 ^ 32 := by omega
  refine Int.ofNat_lt.mpr (Nat.lt_of_not_le fun c => ?_)
  obtain ⟨i, hi, ht⟩ := Nat.exists_ge_and_testBit_of_ge_two_pow (n := 9) (show 2 ^ 9 ≤ n from c)
  have hb := h.2 i hi
  unfold q_bit at hb
  rw [BitVec.ofInt_natCast, BitVec.getLsbD_ofNat] at hb
  have h32 : i < 32 := by
    refine Nat.lt_of_not_le fun c => ?_
    have := Nat.testBit_lt_two_pow (x := n) (i := i) (Nat.lt_of_lt_of_le hn (Nat.pow_le_pow_right (by decide) c))
    rw [this] at ht
    cases ht
  rw [ht] at hb
  simp [h32] at hb
def bc1 (i : Int) : Int := i - q_and (q_ush i 1) 1431655765
def bc2 (a : Int) : Int := q_and a 858993459 + q_and (q_ush a 2) 858993459
def bc3 (b : Int) : Int := q_and (b + q_ush b 4) 252645135
def bc4 (c : Int) : Int := c + q_ush c 8
def bc5 (d : Int) : Int := d + q_ush d 16
theorem bc_all : ∀ n : Nat, n < 512 → q_and (bc5 (bc4 (bc3 (bc2 (bc1 (n : Int)))))) 63 = c_bc (n : Int) 9 := by decide +kernel
def sp_J6_bitCount_0f7a4 : QP := fun ra μ K => match ra with
  | [.inl i] => q_mk i ∧ K (some (.inl (c_bc i 9))) μ
  | _ => False
theorem sp_J6_bitCount_0f7a4_e (i : Int) (μ : QM) (K : Option QV → QM → Prop) : sp_J6_bitCount_0f7a4 [.inl i] μ K = (q_mk i ∧ K (some (.inl (c_bc i 9))) μ) := propext Iff.rfl
theorem sp_J6_bitCount_0f7a4_i {ra : List QV} {μ : QM} {K : Option QV → QM → Prop} (h : sp_J6_bitCount_0f7a4 ra μ K) : ∃ i : Int, ra = [.inl i] ∧ (q_mk i ∧ K (some (.inl (c_bc i 9))) μ) := by
  unfold sp_J6_bitCount_0f7a4 at h
  split at h
  · exact ⟨_, rfl, h⟩
  · exact h.elim
def rm_J6_bitCount_0f7a4 : Room := { frames := 0, cells := 0, slots := 0, locals := 0 }
def G_J6_bitCount_0f7a4 : Nat → Nat × QP := fun i => match i with
  | _ => (0, fun _ _ _ => False)
set_option maxRecDepth 100000 in
set_option maxHeartbeats 4000000 in
theorem B_J6_bitCount_0f7a4 : q_Body cJ6_bitCount_0f7a4 1 u_J6_bitCount_0f7a4 fl_J6 ld_J6 G_J6_bitCount_0f7a4 q_T 0 s_J6_bitCount_0f7a4 sp_J6_bitCount_0f7a4 := by
  intro S Rt hR ra μ h
  obtain ⟨i, rfl, h⟩ := sp_J6_bitCount_0f7a4_i h
  refine ⟨by simp [q_sl, q_ct], ?_⟩
  show S 0 [some (.inl i)] [] μ
  obtain ⟨h1, hk⟩ := h
  refine hR 80 [] 0 _ _ _ rfl ?_
  simp only [v_opt_n, v_opt_s, v_nil, v_iconst, v_bipush, v_sipush, v_lconst0, v_lconst1, v_ldc, v_ldcw, v_ldc2, v_iload0, v_iload1, v_iload2, v_iload3, v_iload, v_lload0, v_lload1, v_lload2, v_lload3, v_lload, v_aload0, v_aload1, v_aload2, v_aload3, v_aload, v_istore0, v_istore1, v_istore2, v_istore3, v_istore, v_lstore0, v_lstore1, v_lstore2, v_lstore3, v_lstore, v_astore0, v_astore1, v_astore2, v_astore3, v_astore, v_iinc, v_iadd, v_isub, v_imul, v_iand, v_ior, v_ixor, v_ishl, v_ishr, v_iushr, v_ineg, v_idiv, v_irem, v_ladd, v_lsub, v_lmul, v_lcmp, v_i2l, v_l2i, v_i2c, v_dup, v_dup2, v_if_eq, v_if_ne, v_if_lt, v_if_ge, v_if_gt, v_if_le, v_ic_eq, v_ic_ne, v_ic_lt, v_ic_ge, v_ic_gt, v_ic_le, v_goto, v_tsw, v_lsw, v_ireturn, v_areturn, v_return, v_iaload, v_laload, v_baload, v_caload, v_aaload, v_iastore, v_lastore, v_bastore, v_castore, v_alen, v_invvi, v_invst, v_invsp, e_int, e_lng, e_ref, e_lg0, e_lg1, e_lg2, e_lg3, e_lg4, e_lg5, e_lg6, e_lg7, e_lg8, e_lg9, e_lg10, e_lg11, e_lg12, e_lg13, e_clrI, e_clrJ, e_clrP, e_clrN, e_s0, e_s1, e_s2, e_s3, e_s4, e_s5, e_s6, e_s7, e_s8, e_s9, e_s10, e_s11, e_s12, e_s13, e_t0, e_t1, e_t2, e_t3, e_t4, e_t5, e_t6, e_t7, e_t8, e_t9, e_t10, e_t11, e_t12, e_t13, e_fd, e_kk, e_k0, e_k1, e_k2, e_k3, e_k4, e_k5, e_k6, e_k7, e_k8, e_k9, e_sv0, e_sv1, e_sv2, e_sv3, e_svc, e_pf0, e_pf1, e_pf2, e_pf3, e_ar, e_aa, e_al, e_sw1, e_sw2, e_ct0, e_ct1, e_ct2, e_cat0, e_cat1, e_rk0, e_rk1, e_rk2, e_inv0, e_inv1, e_inv2, e_inv3, e_inv4, e_inv5, e_inv6, e_o0, e_o1, e_cl, e_cle, e_cg, e_cge, e_ce, e_cr1, e_cr2, e_r, e_R, e_up, Int.cast_ofNat_Int, u_app, false_and, and_false, e_b0, e_b1, e_bn, e_bl, e_bu, Int.reduceLE, Int.reduceLT, Int.reduceEq, Int.reduceNeg, Int.reduceAdd, Int.reduceSub, Int.reduceMul, Nat.reduceLeDiff, Nat.reduceLT, Nat.reduceAdd, Nat.reduceEqDiff, true_and, and_true, true_or, or_true, false_or, or_false, forall_const, not_true_eq_false, not_false_eq_true, true_implies, false_implies, implies_true, and_self, zero_ne_one, one_ne_zero, eq_self, reduceIte, s_J6_bitCount_0f7a4_0, b_J6_bitCount_0f7a4_0, ld_J6_265, ld_J6_266, ld_J6_267]
  show Rt (some (.inl (q_and (bc5 (bc4 (bc3 (bc2 (bc1 i))))) 63))) μ
  have h0 := q_mk_nn h1
  have h2 := q_mk_512 h1
  obtain ⟨n, rfl⟩ : ∃ n : Nat, i = (n : Int) := ⟨i.toNat, by omega⟩
  rw [bc_all n (by omega)]
  exact hk
set_option maxRecDepth 100000 in
theorem C_J6_bitCount_0f7a4 {l : Launch} {ad : Int → Nat} {D : va_G} {cy : Nat → ClassId} {Z : State → Prop} (hZ : q_Zg ad Z) : q_Ct l q_T q_N ad D cy Z yJ6_bitCount_0f7a4 cJ6_bitCount_0f7a4 1 (some .int) rm_J6_bitCount_0f7a4 sp_J6_bitCount_0f7a4 := by
  obtain ⟨hf, hg, hld⟩ := q_chkS k_J6_bitCount_0f7a4
  refine q_met (rk := 0) q_wokT (by decide) rfl hf hg hld rfl (q_skS L_J6_bitCount_0f7a4 o_J6_bitCount_0f7a4) ?_ ?_ ?_ ?_ B_J6_bitCount_0f7a4
  · intro i hi; exact absurd hi List.not_mem_nil
  · intro i hi; exact absurd hi List.not_mem_nil
  · intro i hi; exact absurd hi List.not_mem_nil
  · intro i hi; exact absurd hi List.not_mem_nil
theorem cm_J6_bitCount_0f7a4 : Cond.code yJ6_bitCount_0f7a4 cJ6_bitCount_0f7a4 1 (some .int) ∈ q_tb := by decide +kernel

