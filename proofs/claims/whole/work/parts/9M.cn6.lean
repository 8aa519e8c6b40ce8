/-! constructors: BoardSums -/
theorem dn_X10_init_0 : decode cX10_init 0 = .ok (.aload_n 0, 1) := by decide +kernel
theorem dn_X10_init_1 : decode cX10_init 1 = .ok (.invokespecial 3, 3) := by decide +kernel
theorem dn_X10_init_4 : decode cX10_init 4 = .ok (.aload_n 0, 1) := by decide +kernel
theorem dn_X10_init_5 : decode cX10_init 5 = .ok (.new 9, 3) := by decide +kernel
theorem dn_X10_init_8 : decode cX10_init 8 = .ok (.dup, 1) := by decide +kernel
theorem dn_X10_init_9 : decode cX10_init 9 = .ok (.invokespecial 11, 3) := by decide +kernel
theorem dn_X10_init_12 : decode cX10_init 12 = .ok (.putfield 12, 3) := by decide +kernel
theorem dn_X10_init_15 : decode cX10_init 15 = .ok (.aload_n 0, 1) := by decide +kernel
theorem dn_X10_init_16 : decode cX10_init 16 = .ok (.new 16, 3) := by decide +kernel
theorem dn_X10_init_19 : decode cX10_init 19 = .ok (.dup, 1) := by decide +kernel
theorem dn_X10_init_20 : decode cX10_init 20 = .ok (.invokespecial 18, 3) := by decide +kernel
theorem dn_X10_init_23 : decode cX10_init 23 = .ok (.putfield 19, 3) := by decide +kernel
theorem dn_X10_init_26 : decode cX10_init 26 = .ok (.aload_n 0, 1) := by decide +kernel
theorem dn_X10_init_27 : decode cX10_init 27 = .ok (.new 23, 3) := by decide +kernel
theorem dn_X10_init_30 : decode cX10_init 30 = .ok (.dup, 1) := by decide +kernel
theorem dn_X10_init_31 : decode cX10_init 31 = .ok (.invokespecial 25, 3) := by decide +kernel
theorem dn_X10_init_34 : decode cX10_init 34 = .ok (.putfield 26, 3) := by decide +kernel
theorem dn_X10_init_37 : decode cX10_init 37 = .ok (.aload_n 0, 1) := by decide +kernel
theorem dn_X10_init_38 : decode cX10_init 38 = .ok (.new 30, 3) := by decide +kernel
theorem dn_X10_init_41 : decode cX10_init 41 = .ok (.dup, 1) := by decide +kernel
theorem dn_X10_init_42 : decode cX10_init 42 = .ok (.invokespecial 32, 3) := by decide +kernel
theorem dn_X10_init_45 : decode cX10_init 45 = .ok (.putfield 33, 3) := by decide +kernel
theorem dn_X10_init_48 : decode cX10_init 48 = .ok (.aload_n 0, 1) := by decide +kernel
theorem dn_X10_init_49 : decode cX10_init 49 = .ok (.new 30, 3) := by decide +kernel
theorem dn_X10_init_52 : decode cX10_init 52 = .ok (.dup, 1) := by decide +kernel
theorem dn_X10_init_53 : decode cX10_init 53 = .ok (.invokespecial 32, 3) := by decide +kernel
theorem dn_X10_init_56 : decode cX10_init 56 = .ok (.putfield 37, 3) := by decide +kernel
theorem dn_X10_init_59 : decode cX10_init 59 = .ok (.aload_n 0, 1) := by decide +kernel
theorem dn_X10_init_60 : decode cX10_init 60 = .ok (.new 40, 3) := by decide +kernel
theorem dn_X10_init_63 : decode cX10_init 63 = .ok (.dup, 1) := by decide +kernel
theorem dn_X10_init_64 : decode cX10_init 64 = .ok (.aload_n 0, 1) := by decide +kernel
theorem dn_X10_init_65 : decode cX10_init 65 = .ok (.getfield 26, 3) := by decide +kernel
theorem dn_X10_init_68 : decode cX10_init 68 = .ok (.aload_n 0, 1) := by decide +kernel
theorem dn_X10_init_69 : decode cX10_init 69 = .ok (.getfield 37, 3) := by decide +kernel
theorem dn_X10_init_72 : decode cX10_init 72 = .ok (.invokespecial 42, 3) := by decide +kernel
theorem dn_X10_init_75 : decode cX10_init 75 = .ok (.putfield 45, 3) := by decide +kernel
theorem dn_X10_init_78 : decode cX10_init 78 = .ok (.aload_n 0, 1) := by decide +kernel
theorem dn_X10_init_79 : decode cX10_init 79 = .ok (.new 49, 3) := by decide +kernel
theorem dn_X10_init_82 : decode cX10_init 82 = .ok (.dup, 1) := by decide +kernel
theorem dn_X10_init_83 : decode cX10_init 83 = .ok (.aload_n 0, 1) := by decide +kernel
theorem dn_X10_init_84 : decode cX10_init 84 = .ok (.getfield 12, 3) := by decide +kernel
theorem dn_X10_init_87 : decode cX10_init 87 = .ok (.aload_n 0, 1) := by decide +kernel
theorem dn_X10_init_88 : decode cX10_init 88 = .ok (.getfield 19, 3) := by decide +kernel
theorem dn_X10_init_91 : decode cX10_init 91 = .ok (.aload_n 0, 1) := by decide +kernel
theorem dn_X10_init_92 : decode cX10_init 92 = .ok (.getfield 33, 3) := by decide +kernel
theorem dn_X10_init_95 : decode cX10_init 95 = .ok (.invokespecial 51, 3) := by decide +kernel
theorem dn_X10_init_98 : decode cX10_init 98 = .ok (.putfield 54, 3) := by decide +kernel
theorem dn_X10_init_101 : decode cX10_init 101 = .ok (.aload_n 0, 1) := by decide +kernel
theorem dn_X10_init_102 : decode cX10_init 102 = .ok (.iconst (-1), 1) := by decide +kernel
theorem dn_X10_init_103 : decode cX10_init 103 = .ok (.putfield 58, 3) := by decide +kernel
theorem dn_X10_init_106 : decode cX10_init 106 = .ok (.aload_n 0, 1) := by decide +kernel
theorem dn_X10_init_107 : decode cX10_init 107 = .ok (.iconst 0, 1) := by decide +kernel
theorem dn_X10_init_108 : decode cX10_init 108 = .ok (.putfield 62, 3) := by decide +kernel
theorem dn_X10_init_111 : decode cX10_init 111 = .ok (.return_, 1) := by decide +kernel
def w_X10_init (cy : Nat → ClassId) (h0 : Nat) (a : Nat → Nat) (f : Nat → Nat → Nat) : va_W := ((((((([(h0, .inr (10, [.ref (a 0), .ref (a 1), .ref (a 2), .ref (a 5), .ref (a 6), .ref (a 3), .ref (a 4), .int (-1), .int 0]))] ++ (w_X0_init cy (a 0) (f 0))) ++ (w_X5_init cy (a 1) (f 1))) ++ (w_X7_init cy (a 2) (f 2))) ++ (w_X2_init39 cy (a 3) (f 3))) ++ (w_X2_init62 cy (a 4) (f 4))) ++ (w_X3_init cy (a 5) (a 2) (a 4) (f 5))) ++ (w_X9_init cy (a 6) (a 0) (a 1) (a 3) (f 6)))
def rn_X10_init : Room := { frames := 4, cells := 84, slots := 7007, locals := 78 }
set_option maxHeartbeats 8000000 in
set_option maxRecDepth 100000 in
theorem Cn_X10_init {l : Launch} {D : va_G} {cy : Nat → ClassId} (h0 sz : Nat) : Met l yX10_init (.code yX10_init cX10_init 1 none :: q_tb) rn_X10_init (va_Pc [.ref h0] (fun U => U.heap.size = sz ∧ va_P D vwCl [(h0, .inr (10, [.null, .null, .null, .null, .null, .null, .null, .int 0, .int 0]))] U.heap ∧ va_K D vwCl (q_tys cy) U ∧ va_D (fun _ => True) [(h0, .inr (10, [.null, .null, .null, .null, .null, .null, .null, .int 0, .int 0]))] ∧ q_Zc U)) (va_Qv (fun _ : (Nat → Nat) × (Nat → Nat → Nat) => True) (fun r t => va_P D vwCl (w_X10_init cy h0 r.1 r.2) t.heap ∧ va_D (va_A [(h0, .inr (10, [.null, .null, .null, .null, .null, .null, .null, .int 0, .int 0]))] sz) (w_X10_init cy h0 r.1 r.2)) (va_A [(h0, .inr (10, [.null, .null, .null, .null, .null, .null, .null, .int 0, .int 0]))] sz)) 84 7007 (va_A [(h0, .inr (10, [.null, .null, .null, .null, .null, .null, .null, .int 0, .int 0]))] sz) := by
  refine Met.ofW (cc := cX10_init) (maxL := 1) (ret := none) (by decide) rfl ?_
  intro p e s m args below meth c s₁ B hml hv
  obtain ⟨rfl, hsz, hP, hK, hD0, hz⟩ := hv
  have hx := B.exec
  have hb := B.bytes
  have hr := B.returns
  have hts0 := atoms_spec (ws := .code yX10_init cX10_init 1 none :: q_tb) B.pre
  have hts : ∀ w ∈ q_tb, w.before _ s = true := fun w h => hts0 w (List.mem_cons_of_mem _ h)
  have hown : s.vm.findClass RX10 = some m.cls := findClass_of_methodNamed B.named
  have hlocks := B.notSynchronized
  have hin : meth.name = "<init>" := (name_of_methodNamed B.named B.method).1
  subst hsz
  have hD := hD0.self (sz := s.heap.size)
  generalize hAe : va_A [(h0, .inr (10, [.null, .null, .null, .null, .null, .null, .null, .int 0, .int 0]))] s.heap.size = A at hD ⊢
  have hA : ∀ q : Nat, s.heap.size ≤ q → A q := fun q h => by rw [← hAe]; exact Or.inr h
  have hS : va_S A s.heap s.heap [] := va_S.rf
  have hl := lv_entry ([.ref h0]) (n := 1) (Nat.le_of_ble_eq_true rfl)
  rw [lg_entry_eq]
  generalize (lg_sl ([.ref h0]) ++ List.replicate (1 - (lg_sl ([.ref h0])).length) Slot.unset).toArray = ls at hl ⊢
  have hl : lv_has ls 1 [(0, .ref h0)] := hl
  have hP : va_P D vwCl [(h0, .inr (10, [.null, .null, .null, .null, .null, .null, .null, .int 0, .int 0]))] s.heap := hP
  refine lv_aload_n hx hb dn_X10_init_0 rfl (lv_at hl 0 rfl) ?_
  refine W.objInit hx hb hown (hts (.methodLink RX10 3 objectInit) (by decide +kernel)) (hts (.instanceMethod objectInit) (by decide +kernel)) (hts _ cn_code) rfl (by rw [hml]; exact hl.1) rfl dn_X10_init_1 (Nat.le_of_ble_eq_true rfl) (Nat.le_of_ble_eq_true rfl) ?_
  refine W.eq (g2 := F0 m 4 ls []) rfl ?_
  refine lv_aload_n hx hb dn_X10_init_4 rfl (lv_at hl 0 rfl) ?_
  refine va_new (ci := 0) (fs := [.int 0, .int 0, .int 0]) (C := RX0) (T := TX0) (N := 3) hx hb hts inX0 tyX0 tyX0_ok hown (hts (.classLink RX10 9 RX0) (by decide +kernel)) (hts (.instantiable RX0 3) (by decide +kernel)) (hts (.initialized RX0) (by decide +kernel)) hK hP hD hS hA rfl (fun j hj => by rcases (show j = 0 ∨ j = 1 ∨ j = 2 by omega) with rfl | rfl | rfl <;> rfl) (Nat.le_of_ble_eq_true rfl) (Nat.le_of_ble_eq_true rfl) dn_X10_init_5 (fun q0 H hP hD hS => ?_)
  refine W.widen (k := 1) (n := 3) (Nat.le_of_ble_eq_true rfl) (Nat.le_of_ble_eq_true rfl) ?_
  refine lv_dup hx hb dn_X10_init_8 rfl ?_
  have hPc := hP.sub (ws' := [(q0, .inr (0, [.int 0, .int 0, .int 0]))]) [1] rfl
  have hDc := hD.sub (ws' := [(q0, .inr (0, [.int 0, .int 0, .int 0]))]) [1] (by decide) rfl
  have hFc := va_free (wc := [(q0, .inr (0, [.int 0, .int 0, .int 0]))]) hD hS hA [1] rfl
  refine va_callv (va_runI (As := []) (rest := [.ref q0, .ref h0]) ⟨hx, hb, hml, hown, hts⟩ (Cn_X0_init (l := l) (D := D) (cy := cy) q0 H.size) (cwI 0 hts (q_goodW (show Cond.code yX0_init cX0_init 1 none ∈ q_tb by decide +kernel)) rfl rfl rfl (hts (.initialized RX0) (by decide +kernel)) (hts (.methodLink RX10 11 yX0_init) (by decide +kernel)) (hts (.instanceMethod yX0_init) (by decide +kernel)) rfl (by decide +kernel) ⟨Nat.le_of_ble_eq_true rfl, Nat.le_of_ble_eq_true rfl⟩) ⟨fun a U g mk q => by obtain ⟨q0, q1, qP, qK, qD, qZ⟩ := q; exact ⟨q0, q1, qP, va_K.moved (u := U) (U := U.calling g mk a) (Vm.Alike.refl U.vm) qK, qD, zc_same (s := U) rfl qZ⟩, fun U hU hW => ⟨rfl, by rw [hU], by rw [hU]; exact hPc, va_K.moved hW.alike hK, hDc.weaken (fun _ _ _ _ => trivial), zc_warm hW hz⟩⟩ rfl rfl hl.1 rfl (lv_room (Nat.le_of_ble_eq_true rfl)) dn_X10_init_9 ⟨Nat.le_of_ble_eq_true rfl, Nat.le_of_ble_eq_true rfl⟩) hS (fun q _ h => hFc q h) hFc (fun u0 t H1 locs ht hvm _ hB hz1 hk1 hS => ?_)
  obtain ⟨hP1, hD1⟩ := hB
  rw [ht] at hP1
  obtain ⟨hP, hD⟩ := va_join (wr := [(h0, .inr (10, [.null, .null, .null, .null, .null, .null, .null, .int 0, .int 0]))]) (w1 := (w_X0_init cy q0 u0)) hP hD [1] [0] rfl rfl (by decide) (by decide) hk1 hFc hP1 hD1
  generalize H1 = H at hP hS ⊢
  refine W.widen (k := 1) (n := 3) (Nat.le_of_ble_eq_true rfl) (Nat.le_of_ble_eq_true rfl) ?_
  refine va_putF (D := D) (ci := 10) (v := .ref q0) (ty := .object "BoardSums$Grid") (C := RX10) (T := TX10) (N := 9) hx hb hts inX10 tyX10 tyX10_ok nmX10 hown hK hP hD hS 0 rfl rfl 0 (by decide) (hts (.fieldLink RX10 12 "BoardSums" "grid" "LBoardSums$Grid;") (by decide +kernel)) (fun _ h9 => h9) rfl hin rfl (by decide +kernel) rfl rfl (by simp) dn_X10_init_12 (fun H locs hP hD hS => ?_)
  have hP : va_P D vwCl ([(h0, .inr (10, [.ref q0, .null, .null, .null, .null, .null, .null, .int 0, .int 0]))] ++ (w_X0_init cy q0 u0)) H := hP
  have hD : va_D A ([(h0, .inr (10, [.ref q0, .null, .null, .null, .null, .null, .null, .int 0, .int 0]))] ++ (w_X0_init cy q0 u0)) := hD
  refine lv_aload_n hx hb dn_X10_init_15 rfl (lv_at hl 0 rfl) ?_
  refine va_new (ci := 5) (fs := [.null, .null, .null]) (C := RX5) (T := TX5) (N := 3) hx hb hts inX5 tyX5 tyX5_ok hown (hts (.classLink RX10 16 RX5) (by decide +kernel)) (hts (.instantiable RX5 3) (by decide +kernel)) (hts (.initialized RX5) (by decide +kernel)) hK hP hD hS hA rfl (fun j hj => by rcases (show j = 0 ∨ j = 1 ∨ j = 2 by omega) with rfl | rfl | rfl <;> rfl) (Nat.le_of_ble_eq_true rfl) (Nat.le_of_ble_eq_true rfl) dn_X10_init_16 (fun q1 H hP hD hS => ?_)
  refine W.widen (k := 2) (n := 6) (Nat.le_of_ble_eq_true rfl) (Nat.le_of_ble_eq_true rfl) ?_
  refine lv_dup hx hb dn_X10_init_19 rfl ?_
  have hPc := hP.sub (ws' := [(q1, .inr (5, [.null, .null, .null]))]) [2] rfl
  have hDc := hD.sub (ws' := [(q1, .inr (5, [.null, .null, .null]))]) [2] (by decide) rfl
  have hFc := va_free (wc := [(q1, .inr (5, [.null, .null, .null]))]) hD hS hA [2] rfl
  refine va_callv (va_runI (As := []) (rest := [.ref q1, .ref h0]) ⟨hx, hb, hml, hown, hts⟩ (Cn_X5_init (l := l) (D := D) (cy := cy) q1 H.size) (cwI 0 hts (q_goodW (show Cond.code yX5_init cX5_init 1 none ∈ q_tb by decide +kernel)) rfl rfl rfl (hts (.initialized RX5) (by decide +kernel)) (hts (.methodLink RX10 18 yX5_init) (by decide +kernel)) (hts (.instanceMethod yX5_init) (by decide +kernel)) rfl (by decide +kernel) ⟨Nat.le_of_ble_eq_true rfl, Nat.le_of_ble_eq_true rfl⟩) ⟨fun a U g mk q => by obtain ⟨q0, q1, qP, qK, qD, qZ⟩ := q; exact ⟨q0, q1, qP, va_K.moved (u := U) (U := U.calling g mk a) (Vm.Alike.refl U.vm) qK, qD, zc_same (s := U) rfl qZ⟩, fun U hU hW => ⟨rfl, by rw [hU], by rw [hU]; exact hPc, va_K.moved hW.alike hK, hDc.weaken (fun _ _ _ _ => trivial), zc_warm hW hz⟩⟩ rfl rfl hl.1 rfl (lv_room (Nat.le_of_ble_eq_true rfl)) dn_X10_init_20 ⟨Nat.le_of_ble_eq_true rfl, Nat.le_of_ble_eq_true rfl⟩) hS (fun q _ h => hFc q h) hFc (fun u1 t H1 locs ht hvm _ hB hz1 hk1 hS => ?_)
  obtain ⟨hP1, hD1⟩ := hB
  rw [ht] at hP1
  obtain ⟨hP, hD⟩ := va_join (wr := ([(h0, .inr (10, [.ref q0, .null, .null, .null, .null, .null, .null, .int 0, .int 0]))] ++ (w_X0_init cy q0 u0))) (w1 := (w_X5_init cy q1 u1)) hP hD [2] [0, 1] rfl rfl (by decide) (by decide) hk1 hFc hP1 hD1
  generalize H1 = H at hP hS ⊢
  refine W.widen (k := 12) (n := 3152) (Nat.le_of_ble_eq_true rfl) (Nat.le_of_ble_eq_true rfl) ?_
  refine va_putF (D := D) (ci := 10) (v := .ref q1) (ty := .object "BoardSums$Sheets") (C := RX10) (T := TX10) (N := 9) hx hb hts inX10 tyX10 tyX10_ok nmX10 hown hK hP hD hS 0 rfl rfl 1 (by decide) (hts (.fieldLink RX10 19 "BoardSums" "sheets" "LBoardSums$Sheets;") (by decide +kernel)) (fun _ h9 => h9) rfl hin rfl (by decide +kernel) rfl rfl (by simp) dn_X10_init_23 (fun H locs hP hD hS => ?_)
  have hP : va_P D vwCl (([(h0, .inr (10, [.ref q0, .ref q1, .null, .null, .null, .null, .null, .int 0, .int 0]))] ++ (w_X0_init cy q0 u0)) ++ (w_X5_init cy q1 u1)) H := hP
  have hD : va_D A (([(h0, .inr (10, [.ref q0, .ref q1, .null, .null, .null, .null, .null, .int 0, .int 0]))] ++ (w_X0_init cy q0 u0)) ++ (w_X5_init cy q1 u1)) := hD
  refine lv_aload_n hx hb dn_X10_init_26 rfl (lv_at hl 0 rfl) ?_
  refine va_new (ci := 7) (fs := [.null, .int 0]) (C := RX7) (T := TX7) (N := 2) hx hb hts inX7 tyX7 tyX7_ok hown (hts (.classLink RX10 23 RX7) (by decide +kernel)) (hts (.instantiable RX7 2) (by decide +kernel)) (hts (.initialized RX7) (by decide +kernel)) hK hP hD hS hA rfl (fun j hj => by rcases (show j = 0 ∨ j = 1 by omega) with rfl | rfl <;> rfl) (Nat.le_of_ble_eq_true rfl) (Nat.le_of_ble_eq_true rfl) dn_X10_init_27 (fun q2 H hP hD hS => ?_)
  refine W.widen (k := 13) (n := 3154) (Nat.le_of_ble_eq_true rfl) (Nat.le_of_ble_eq_true rfl) ?_
  refine lv_dup hx hb dn_X10_init_30 rfl ?_
  have hPc := hP.sub (ws' := [(q2, .inr (7, [.null, .int 0]))]) [13] rfl
  have hDc := hD.sub (ws' := [(q2, .inr (7, [.null, .int 0]))]) [13] (by decide) rfl
  have hFc := va_free (wc := [(q2, .inr (7, [.null, .int 0]))]) hD hS hA [13] rfl
  refine va_callv (va_runIN (As := []) (rest := [.ref q2, .ref h0]) ⟨hx, hb, hml, hown, hts⟩ (Cn_X7_init (l := l) (D := D) (cy := cy) q2 H.size) ⟨va_cnB (host := "BoardSums") 0 hts (q_goodW (show Cond.code yX7_init cX7_init 1 none ∈ q_tb by decide +kernel)) rfl rfl rfl (hz.1 (RX10, 25, yX7_init, "BoardSums") (List.mem_of_getElem? (i := 4) rfl)) (hts (.initialized RX7) (by decide +kernel)) (by decide +kernel) ⟨Nat.le_of_ble_eq_true rfl, Nat.le_of_ble_eq_true rfl⟩, rfl, hts (.instanceMethod yX7_init) (by decide +kernel)⟩ ⟨fun a U g mk q => by obtain ⟨q0, q1, qP, qK, qD, qZ⟩ := q; exact ⟨q0, q1, qP, va_K.moved (u := U) (U := U.calling g mk a) (Vm.Alike.refl U.vm) qK, qD, zc_same (s := U) rfl qZ⟩, fun U hU hW => ⟨rfl, by rw [hU], by rw [hU]; exact hPc, va_K.moved hW.alike hK, hDc.weaken (fun _ _ _ _ => trivial), zc_warm hW hz⟩⟩ rfl rfl hl.1 rfl (lv_room (Nat.le_of_ble_eq_true rfl)) dn_X10_init_31 ⟨Nat.le_of_ble_eq_true rfl, Nat.le_of_ble_eq_true rfl⟩) hS (fun q _ h => hFc q h) hFc (fun u2 t H1 locs ht hvm _ hB hz1 hk1 hS => ?_)
  obtain ⟨hP1, hD1⟩ := hB
  rw [ht] at hP1
  obtain ⟨hP, hD⟩ := va_join (wr := (([(h0, .inr (10, [.ref q0, .ref q1, .null, .null, .null, .null, .null, .int 0, .int 0]))] ++ (w_X0_init cy q0 u0)) ++ (w_X5_init cy q1 u1))) (w1 := (w_X7_init cy q2 u2)) hP hD [13] [0, 1, 2, 3, 4, 5, 6, 7, 8, 9, 10, 11, 12] rfl rfl (by decide) (by decide) hk1 hFc hP1 hD1
  generalize H1 = H at hP hS ⊢
  refine W.widen (k := 14) (n := 3454) (Nat.le_of_ble_eq_true rfl) (Nat.le_of_ble_eq_true rfl) ?_
  refine va_putF (D := D) (ci := 10) (v := .ref q2) (ty := .object "BoardSums$Tape") (C := RX10) (T := TX10) (N := 9) hx hb hts inX10 tyX10 tyX10_ok nmX10 hown hK hP hD hS 0 rfl rfl 2 (by decide) (hts (.fieldLink RX10 26 "BoardSums" "tape" "LBoardSums$Tape;") (by decide +kernel)) (fun _ h9 => h9) rfl hin rfl (by decide +kernel) rfl rfl (by simp) dn_X10_init_34 (fun H locs hP hD hS => ?_)
  have hP : va_P D vwCl ((([(h0, .inr (10, [.ref q0, .ref q1, .ref q2, .null, .null, .null, .null, .int 0, .int 0]))] ++ (w_X0_init cy q0 u0)) ++ (w_X5_init cy q1 u1)) ++ (w_X7_init cy q2 u2)) H := hP
  have hD : va_D A ((([(h0, .inr (10, [.ref q0, .ref q1, .ref q2, .null, .null, .null, .null, .int 0, .int 0]))] ++ (w_X0_init cy q0 u0)) ++ (w_X5_init cy q1 u1)) ++ (w_X7_init cy q2 u2)) := hD
  refine lv_aload_n hx hb dn_X10_init_37 rfl (lv_at hl 0 rfl) ?_
  refine va_new (ci := 2) (fs := [.null, .null, .int 0]) (C := RX2) (T := TX2) (N := 3) hx hb hts inX2 tyX2 tyX2_ok hown (hts (.classLink RX10 30 RX2) (by decide +kernel)) (hts (.instantiable RX2 3) (by decide +kernel)) (hts (.initialized RX2) (by decide +kernel)) hK hP hD hS hA rfl (fun j hj => by rcases (show j = 0 ∨ j = 1 ∨ j = 2 by omega) with rfl | rfl | rfl <;> rfl) (Nat.le_of_ble_eq_true rfl) (Nat.le_of_ble_eq_true rfl) dn_X10_init_38 (fun q3 H hP hD hS => ?_)
  refine W.widen (k := 15) (n := 3457) (Nat.le_of_ble_eq_true rfl) (Nat.le_of_ble_eq_true rfl) ?_
  refine lv_dup hx hb dn_X10_init_41 rfl ?_
  have hPc := hP.sub (ws' := [(q3, .inr (2, [.null, .null, .int 0]))]) [15] rfl
  have hDc := hD.sub (ws' := [(q3, .inr (2, [.null, .null, .int 0]))]) [15] (by decide) rfl
  have hFc := va_free (wc := [(q3, .inr (2, [.null, .null, .int 0]))]) hD hS hA [15] rfl
  refine va_callv (va_runI (As := []) (rest := [.ref q3, .ref h0]) ⟨hx, hb, hml, hown, hts⟩ (Cn_X2_init39 (l := l) (D := D) (cy := cy) q3 H.size) (cwI 0 hts (q_goodW (show Cond.code yX2_init cX2_init 2 none ∈ q_tb by decide +kernel)) rfl rfl rfl (hts (.initialized RX2) (by decide +kernel)) (hts (.methodLink RX10 32 yX2_init) (by decide +kernel)) (hts (.instanceMethod yX2_init) (by decide +kernel)) rfl (by decide +kernel) ⟨Nat.le_of_ble_eq_true rfl, Nat.le_of_ble_eq_true rfl⟩) ⟨fun a U g mk q => by obtain ⟨q0, q1, qP, qK, qD, qZ⟩ := q; exact ⟨q0, q1, qP, va_K.moved (u := U) (U := U.calling g mk a) (Vm.Alike.refl U.vm) qK, qD, zc_same (s := U) rfl qZ⟩, fun U hU hW => ⟨rfl, by rw [hU], by rw [hU]; exact hPc, va_K.moved hW.alike hK, hDc.weaken (fun _ _ _ _ => trivial), zc_warm hW hz⟩⟩ rfl rfl hl.1 rfl (lv_room (Nat.le_of_ble_eq_true rfl)) dn_X10_init_42 ⟨Nat.le_of_ble_eq_true rfl, Nat.le_of_ble_eq_true rfl⟩) hS (fun q _ h => hFc q h) hFc (fun u3 t H1 locs ht hvm _ hB hz1 hk1 hS => ?_)
  obtain ⟨hP1, hD1⟩ := hB
  rw [ht] at hP1
  obtain ⟨hP, hD⟩ := va_join (wr := ((([(h0, .inr (10, [.ref q0, .ref q1, .ref q2, .null, .null, .null, .null, .int 0, .int 0]))] ++ (w_X0_init cy q0 u0)) ++ (w_X5_init cy q1 u1)) ++ (w_X7_init cy q2 u2))) (w1 := (w_X2_init39 cy q3 u3)) hP hD [15] [0, 1, 2, 3, 4, 5, 6, 7, 8, 9, 10, 11, 12, 13, 14] rfl rfl (by decide) (by decide) hk1 hFc hP1 hD1
  generalize H1 = H at hP hS ⊢
  refine W.widen (k := 37) (n := 3573) (Nat.le_of_ble_eq_true rfl) (Nat.le_of_ble_eq_true rfl) ?_
  refine va_put (D := D) (ci := 10) (v := .ref q3) (ty := .object "BoardSums$Plan") (C := RX10) (T := TX10) (N := 9) hx hb hts inX10 tyX10 tyX10_ok nmX10 hown hK hP hD hS 0 rfl rfl 5 (by decide) (hts (.fieldLink RX10 33 "BoardSums" "plan" "LBoardSums$Plan;") (by decide +kernel)) (fun _ h9 => h9) rfl (by decide +kernel) rfl rfl (by simp) dn_X10_init_45 (fun H locs hP hD hS => ?_)
  have hP : va_P D vwCl (((([(h0, .inr (10, [.ref q0, .ref q1, .ref q2, .null, .null, .ref q3, .null, .int 0, .int 0]))] ++ (w_X0_init cy q0 u0)) ++ (w_X5_init cy q1 u1)) ++ (w_X7_init cy q2 u2)) ++ (w_X2_init39 cy q3 u3)) H := hP
  have hD : va_D A (((([(h0, .inr (10, [.ref q0, .ref q1, .ref q2, .null, .null, .ref q3, .null, .int 0, .int 0]))] ++ (w_X0_init cy q0 u0)) ++ (w_X5_init cy q1 u1)) ++ (w_X7_init cy q2 u2)) ++ (w_X2_init39 cy q3 u3)) := hD
  refine lv_aload_n hx hb dn_X10_init_48 rfl (lv_at hl 0 rfl) ?_
  refine va_new (ci := 2) (fs := [.null, .null, .int 0]) (C := RX2) (T := TX2) (N := 3) hx hb hts inX2 tyX2 tyX2_ok hown (hts (.classLink RX10 30 RX2) (by decide +kernel)) (hts (.instantiable RX2 3) (by decide +kernel)) (hts (.initialized RX2) (by decide +kernel)) hK hP hD hS hA rfl (fun j hj => by rcases (show j = 0 ∨ j = 1 ∨ j = 2 by omega) with rfl | rfl | rfl <;> rfl) (Nat.le_of_ble_eq_true rfl) (Nat.le_of_ble_eq_true rfl) dn_X10_init_49 (fun q4 H hP hD hS => ?_)
  refine W.widen (k := 38) (n := 3576) (Nat.le_of_ble_eq_true rfl) (Nat.le_of_ble_eq_true rfl) ?_
  refine lv_dup hx hb dn_X10_init_52 rfl ?_
  have hPc := hP.sub (ws' := [(q4, .inr (2, [.null, .null, .int 0]))]) [38] rfl
  have hDc := hD.sub (ws' := [(q4, .inr (2, [.null, .null, .int 0]))]) [38] (by decide) rfl
  have hFc := va_free (wc := [(q4, .inr (2, [.null, .null, .int 0]))]) hD hS hA [38] rfl
  refine va_callv (va_runI (As := []) (rest := [.ref q4, .ref h0]) ⟨hx, hb, hml, hown, hts⟩ (Cn_X2_init62 (l := l) (D := D) (cy := cy) q4 H.size) (cwI 0 hts (q_goodW (show Cond.code yX2_init cX2_init 2 none ∈ q_tb by decide +kernel)) rfl rfl rfl (hts (.initialized RX2) (by decide +kernel)) (hts (.methodLink RX10 32 yX2_init) (by decide +kernel)) (hts (.instanceMethod yX2_init) (by decide +kernel)) rfl (by decide +kernel) ⟨Nat.le_of_ble_eq_true rfl, Nat.le_of_ble_eq_true rfl⟩) ⟨fun a U g mk q => by obtain ⟨q0, q1, qP, qK, qD, qZ⟩ := q; exact ⟨q0, q1, qP, va_K.moved (u := U) (U := U.calling g mk a) (Vm.Alike.refl U.vm) qK, qD, zc_same (s := U) rfl qZ⟩, fun U hU hW => ⟨rfl, by rw [hU], by rw [hU]; exact hPc, va_K.moved hW.alike hK, hDc.weaken (fun _ _ _ _ => trivial), zc_warm hW hz⟩⟩ rfl rfl hl.1 rfl (lv_room (Nat.le_of_ble_eq_true rfl)) dn_X10_init_53 ⟨Nat.le_of_ble_eq_true rfl, Nat.le_of_ble_eq_true rfl⟩) hS (fun q _ h => hFc q h) hFc (fun u4 t H1 locs ht hvm _ hB hz1 hk1 hS => ?_)
  obtain ⟨hP1, hD1⟩ := hB
  rw [ht] at hP1
  obtain ⟨hP, hD⟩ := va_join (wr := (((([(h0, .inr (10, [.ref q0, .ref q1, .ref q2, .null, .null, .ref q3, .null, .int 0, .int 0]))] ++ (w_X0_init cy q0 u0)) ++ (w_X5_init cy q1 u1)) ++ (w_X7_init cy q2 u2)) ++ (w_X2_init39 cy q3 u3))) (w1 := (w_X2_init62 cy q4 u4)) hP hD [38] [0, 1, 2, 3, 4, 5, 6, 7, 8, 9, 10, 11, 12, 13, 14, 15, 16, 17, 18, 19, 20, 21, 22, 23, 24, 25, 26, 27, 28, 29, 30, 31, 32, 33, 34, 35, 36, 37] rfl rfl (by decide) (by decide) hk1 hFc hP1 hD1
  generalize H1 = H at hP hS ⊢
  refine W.widen (k := 60) (n := 3692) (Nat.le_of_ble_eq_true rfl) (Nat.le_of_ble_eq_true rfl) ?_
  refine va_put (D := D) (ci := 10) (v := .ref q4) (ty := .object "BoardSums$Plan") (C := RX10) (T := TX10) (N := 9) hx hb hts inX10 tyX10 tyX10_ok nmX10 hown hK hP hD hS 0 rfl rfl 6 (by decide) (hts (.fieldLink RX10 37 "BoardSums" "draft" "LBoardSums$Plan;") (by decide +kernel)) (fun _ h9 => h9) rfl (by decide +kernel) rfl rfl (by simp) dn_X10_init_56 (fun H locs hP hD hS => ?_)
  have hP : va_P D vwCl ((((([(h0, .inr (10, [.ref q0, .ref q1, .ref q2, .null, .null, .ref q3, .ref q4, .int 0, .int 0]))] ++ (w_X0_init cy q0 u0)) ++ (w_X5_init cy q1 u1)) ++ (w_X7_init cy q2 u2)) ++ (w_X2_init39 cy q3 u3)) ++ (w_X2_init62 cy q4 u4)) H := hP
  have hD : va_D A ((((([(h0, .inr (10, [.ref q0, .ref q1, .ref q2, .null, .null, .ref q3, .ref q4, .int 0, .int 0]))] ++ (w_X0_init cy q0 u0)) ++ (w_X5_init cy q1 u1)) ++ (w_X7_init cy q2 u2)) ++ (w_X2_init39 cy q3 u3)) ++ (w_X2_init62 cy q4 u4)) := hD
  refine lv_aload_n hx hb dn_X10_init_59 rfl (lv_at hl 0 rfl) ?_
  refine va_new (ci := 3) (fs := [.null, .null]) (C := RX3) (T := TX3) (N := 2) hx hb hts inX3 tyX3 tyX3_ok hown (hts (.classLink RX10 40 RX3) (by decide +kernel)) (hts (.instantiable RX3 2) (by decide +kernel)) (hts (.initialized RX3) (by decide +kernel)) hK hP hD hS hA rfl (fun j hj => by rcases (show j = 0 ∨ j = 1 by omega) with rfl | rfl <;> rfl) (Nat.le_of_ble_eq_true rfl) (Nat.le_of_ble_eq_true rfl) dn_X10_init_60 (fun q5 H hP hD hS => ?_)
  refine W.widen (k := 61) (n := 3694) (Nat.le_of_ble_eq_true rfl) (Nat.le_of_ble_eq_true rfl) ?_
  refine lv_dup hx hb dn_X10_init_63 rfl ?_
  refine lv_aload_n hx hb dn_X10_init_64 rfl (lv_at hl 0 rfl) ?_
  refine va_get (D := D) (ci := 10) (v := .ref q2) (C := RX10) (T := TX10) (N := 9) hx hb hts inX10 hown hK hP 0 rfl rfl 2 (by decide) (hts (.fieldLink RX10 26 "BoardSums" "tape" "LBoardSums$Tape;") (by decide +kernel)) (fun _ h9 => h9) rfl dn_X10_init_65 ?_
  refine lv_aload_n hx hb dn_X10_init_68 rfl (lv_at hl 0 rfl) ?_
  refine va_get (D := D) (ci := 10) (v := .ref q4) (C := RX10) (T := TX10) (N := 9) hx hb hts inX10 hown hK hP 0 rfl rfl 6 (by decide) (hts (.fieldLink RX10 37 "BoardSums" "draft" "LBoardSums$Plan;") (by decide +kernel)) (fun _ h9 => h9) rfl dn_X10_init_69 ?_
  have hPc := hP.sub (ws' := [(q5, .inr (3, [.null, .null]))]) [61] rfl
  have hDc := hD.sub (ws' := [(q5, .inr (3, [.null, .null]))]) [61] (by decide) rfl
  have hFc := va_free (wc := [(q5, .inr (3, [.null, .null]))]) hD hS hA [61] rfl
  refine va_callv (va_runI (As := [.ref q2, .ref q4]) (rest := [.ref q5, .ref h0]) ⟨hx, hb, hml, hown, hts⟩ (Cn_X3_init (l := l) (D := D) (cy := cy) q5 q2 q4 H.size) (cwI 2 hts (q_goodW (show Cond.code yX3_init cX3_init 3 none ∈ q_tb by decide +kernel)) rfl rfl rfl (hts (.initialized RX3) (by decide +kernel)) (hts (.methodLink RX10 42 yX3_init) (by decide +kernel)) (hts (.instanceMethod yX3_init) (by decide +kernel)) rfl (by decide +kernel) ⟨Nat.le_of_ble_eq_true rfl, Nat.le_of_ble_eq_true rfl⟩) ⟨fun a U g mk q => by obtain ⟨q0, q1, qP, qK, qD, qZ⟩ := q; exact ⟨q0, q1, qP, va_K.moved (u := U) (U := U.calling g mk a) (Vm.Alike.refl U.vm) qK, qD, zc_same (s := U) rfl qZ⟩, fun U hU hW => ⟨rfl, by rw [hU], by rw [hU]; exact hPc, va_K.moved hW.alike hK, hDc.weaken (fun _ _ _ _ => trivial), zc_warm hW hz⟩⟩ rfl rfl hl.1 rfl (lv_room (Nat.le_of_ble_eq_true rfl)) dn_X10_init_72 ⟨Nat.le_of_ble_eq_true rfl, Nat.le_of_ble_eq_true rfl⟩) hS (fun q _ h => hFc q h) hFc (fun u5 t H1 locs ht hvm _ hB hz1 hk1 hS => ?_)
  obtain ⟨hP1, hD1⟩ := hB
  rw [ht] at hP1
  obtain ⟨hP, hD⟩ := va_join (wr := ((((([(h0, .inr (10, [.ref q0, .ref q1, .ref q2, .null, .null, .ref q3, .ref q4, .int 0, .int 0]))] ++ (w_X0_init cy q0 u0)) ++ (w_X5_init cy q1 u1)) ++ (w_X7_init cy q2 u2)) ++ (w_X2_init39 cy q3 u3)) ++ (w_X2_init62 cy q4 u4))) (w1 := (w_X3_init cy q5 q2 q4 u5)) hP hD [61] [0, 1, 2, 3, 4, 5, 6, 7, 8, 9, 10, 11, 12, 13, 14, 15, 16, 17, 18, 19, 20, 21, 22, 23, 24, 25, 26, 27, 28, 29, 30, 31, 32, 33, 34, 35, 36, 37, 38, 39, 40, 41, 42, 43, 44, 45, 46, 47, 48, 49, 50, 51, 52, 53, 54, 55, 56, 57, 58, 59, 60] rfl rfl (by decide) (by decide) hk1 hFc hP1 hD1
  generalize H1 = H at hP hS ⊢
  refine W.widen (k := 65) (n := 4603) (Nat.le_of_ble_eq_true rfl) (Nat.le_of_ble_eq_true rfl) ?_
  refine va_putF (D := D) (ci := 10) (v := .ref q5) (ty := .object "BoardSums$Reader") (C := RX10) (T := TX10) (N := 9) hx hb hts inX10 tyX10 tyX10_ok nmX10 hown hK hP hD hS 0 rfl rfl 3 (by decide) (hts (.fieldLink RX10 45 "BoardSums" "reader" "LBoardSums$Reader;") (by decide +kernel)) (fun _ h9 => h9) rfl hin rfl (by decide +kernel) rfl rfl (by simp) dn_X10_init_75 (fun H locs hP hD hS => ?_)
  have hP : va_P D vwCl (((((([(h0, .inr (10, [.ref q0, .ref q1, .ref q2, .ref q5, .null, .ref q3, .ref q4, .int 0, .int 0]))] ++ (w_X0_init cy q0 u0)) ++ (w_X5_init cy q1 u1)) ++ (w_X7_init cy q2 u2)) ++ (w_X2_init39 cy q3 u3)) ++ (w_X2_init62 cy q4 u4)) ++ (w_X3_init cy q5 q2 q4 u5)) H := hP
  have hD : va_D A (((((([(h0, .inr (10, [.ref q0, .ref q1, .ref q2, .ref q5, .null, .ref q3, .ref q4, .int 0, .int 0]))] ++ (w_X0_init cy q0 u0)) ++ (w_X5_init cy q1 u1)) ++ (w_X7_init cy q2 u2)) ++ (w_X2_init39 cy q3 u3)) ++ (w_X2_init62 cy q4 u4)) ++ (w_X3_init cy q5 q2 q4 u5)) := hD
  refine lv_aload_n hx hb dn_X10_init_78 rfl (lv_at hl 0 rfl) ?_
  refine va_new (ci := 9) (fs := [.null, .null, .null, .null, .null, .null, .int 0]) (C := RX9) (T := TX9) (N := 7) hx hb hts inX9 tyX9 tyX9_ok hown (hts (.classLink RX10 49 RX9) (by decide +kernel)) (hts (.instantiable RX9 7) (by decide +kernel)) (hts (.initialized RX9) (by decide +kernel)) hK hP hD hS hA rfl (fun j hj => by rcases (show j = 0 ∨ j = 1 ∨ j = 2 ∨ j = 3 ∨ j = 4 ∨ j = 5 ∨ j = 6 by omega) with rfl | rfl | rfl | rfl | rfl | rfl | rfl <;> rfl) (Nat.le_of_ble_eq_true rfl) (Nat.le_of_ble_eq_true rfl) dn_X10_init_79 (fun q6 H hP hD hS => ?_)
  refine W.widen (k := 66) (n := 4610) (Nat.le_of_ble_eq_true rfl) (Nat.le_of_ble_eq_true rfl) ?_
  refine lv_dup hx hb dn_X10_init_82 rfl ?_
  refine lv_aload_n hx hb dn_X10_init_83 rfl (lv_at hl 0 rfl) ?_
  refine va_get (D := D) (ci := 10) (v := .ref q0) (C := RX10) (T := TX10) (N := 9) hx hb hts inX10 hown hK hP 0 rfl rfl 0 (by decide) (hts (.fieldLink RX10 12 "BoardSums" "grid" "LBoardSums$Grid;") (by decide +kernel)) (fun _ h9 => h9) rfl dn_X10_init_84 ?_
  refine lv_aload_n hx hb dn_X10_init_87 rfl (lv_at hl 0 rfl) ?_
  refine va_get (D := D) (ci := 10) (v := .ref q1) (C := RX10) (T := TX10) (N := 9) hx hb hts inX10 hown hK hP 0 rfl rfl 1 (by decide) (hts (.fieldLink RX10 19 "BoardSums" "sheets" "LBoardSums$Sheets;") (by decide +kernel)) (fun _ h9 => h9) rfl dn_X10_init_88 ?_
  refine lv_aload_n hx hb dn_X10_init_91 rfl (lv_at hl 0 rfl) ?_
  refine va_get (D := D) (ci := 10) (v := .ref q3) (C := RX10) (T := TX10) (N := 9) hx hb hts inX10 hown hK hP 0 rfl rfl 5 (by decide) (hts (.fieldLink RX10 33 "BoardSums" "plan" "LBoardSums$Plan;") (by decide +kernel)) (fun _ h9 => h9) rfl dn_X10_init_92 ?_
  have hPc := hP.sub (ws' := [(q6, .inr (9, [.null, .null, .null, .null, .null, .null, .int 0]))]) [66] rfl
  have hDc := hD.sub (ws' := [(q6, .inr (9, [.null, .null, .null, .null, .null, .null, .int 0]))]) [66] (by decide) rfl
  have hFc := va_free (wc := [(q6, .inr (9, [.null, .null, .null, .null, .null, .null, .int 0]))]) hD hS hA [66] rfl
  refine va_callv (va_runI (As := [.ref q0, .ref q1, .ref q3]) (rest := [.ref q6, .ref h0]) ⟨hx, hb, hml, hown, hts⟩ (Cn_X9_init (l := l) (D := D) (cy := cy) q6 q0 q1 q3 H.size) (cwI 3 hts (q_goodW (show Cond.code yX9_init cX9_init 4 none ∈ q_tb by decide +kernel)) rfl rfl rfl (hts (.initialized RX9) (by decide +kernel)) (hts (.methodLink RX10 51 yX9_init) (by decide +kernel)) (hts (.instanceMethod yX9_init) (by decide +kernel)) rfl (by decide +kernel) ⟨Nat.le_of_ble_eq_true rfl, Nat.le_of_ble_eq_true rfl⟩) ⟨fun a U g mk q => by obtain ⟨q0, q1, qP, qK, qD, qZ⟩ := q; exact ⟨q0, q1, qP, va_K.moved (u := U) (U := U.calling g mk a) (Vm.Alike.refl U.vm) qK, qD, zc_same (s := U) rfl qZ⟩, fun U hU hW => ⟨rfl, by rw [hU], by rw [hU]; exact hPc, va_K.moved hW.alike hK, hDc.weaken (fun _ _ _ _ => trivial), zc_warm hW hz⟩⟩ rfl rfl hl.1 rfl (lv_room (Nat.le_of_ble_eq_true rfl)) dn_X10_init_95 ⟨Nat.le_of_ble_eq_true rfl, Nat.le_of_ble_eq_true rfl⟩) hS (fun q _ h => hFc q h) hFc (fun u6 t H1 locs ht hvm _ hB hz1 hk1 hS => ?_)
  obtain ⟨hP1, hD1⟩ := hB
  rw [ht] at hP1
  obtain ⟨hP, hD⟩ := va_join (wr := (((((([(h0, .inr (10, [.ref q0, .ref q1, .ref q2, .ref q5, .null, .ref q3, .ref q4, .int 0, .int 0]))] ++ (w_X0_init cy q0 u0)) ++ (w_X5_init cy q1 u1)) ++ (w_X7_init cy q2 u2)) ++ (w_X2_init39 cy q3 u3)) ++ (w_X2_init62 cy q4 u4)) ++ (w_X3_init cy q5 q2 q4 u5))) (w1 := (w_X9_init cy q6 q0 q1 q3 u6)) hP hD [66] [0, 1, 2, 3, 4, 5, 6, 7, 8, 9, 10, 11, 12, 13, 14, 15, 16, 17, 18, 19, 20, 21, 22, 23, 24, 25, 26, 27, 28, 29, 30, 31, 32, 33, 34, 35, 36, 37, 38, 39, 40, 41, 42, 43, 44, 45, 46, 47, 48, 49, 50, 51, 52, 53, 54, 55, 56, 57, 58, 59, 60, 61, 62, 63, 64, 65] rfl rfl (by decide) (by decide) hk1 hFc hP1 hD1
  generalize H1 = H at hP hS ⊢
  refine W.widen (k := 84) (n := 7007) (Nat.le_of_ble_eq_true rfl) (Nat.le_of_ble_eq_true rfl) ?_
  refine va_putF (D := D) (ci := 10) (v := .ref q6) (ty := .object "BoardSums$Works") (C := RX10) (T := TX10) (N := 9) hx hb hts inX10 tyX10 tyX10_ok nmX10 hown hK hP hD hS 0 rfl rfl 4 (by decide) (hts (.fieldLink RX10 54 "BoardSums" "works" "LBoardSums$Works;") (by decide +kernel)) (fun _ h9 => h9) rfl hin rfl (by decide +kernel) rfl rfl (by simp) dn_X10_init_98 (fun H locs hP hD hS => ?_)
  have hP : va_P D vwCl ((((((([(h0, .inr (10, [.ref q0, .ref q1, .ref q2, .ref q5, .ref q6, .ref q3, .ref q4, .int 0, .int 0]))] ++ (w_X0_init cy q0 u0)) ++ (w_X5_init cy q1 u1)) ++ (w_X7_init cy q2 u2)) ++ (w_X2_init39 cy q3 u3)) ++ (w_X2_init62 cy q4 u4)) ++ (w_X3_init cy q5 q2 q4 u5)) ++ (w_X9_init cy q6 q0 q1 q3 u6)) H := hP
  have hD : va_D A ((((((([(h0, .inr (10, [.ref q0, .ref q1, .ref q2, .ref q5, .ref q6, .ref q3, .ref q4, .int 0, .int 0]))] ++ (w_X0_init cy q0 u0)) ++ (w_X5_init cy q1 u1)) ++ (w_X7_init cy q2 u2)) ++ (w_X2_init39 cy q3 u3)) ++ (w_X2_init62 cy q4 u4)) ++ (w_X3_init cy q5 q2 q4 u5)) ++ (w_X9_init cy q6 q0 q1 q3 u6)) := hD
  refine lv_aload_n hx hb dn_X10_init_101 rfl (lv_at hl 0 rfl) ?_
  refine lv_iconst hx hb dn_X10_init_102 (v := (-1)) rfl ?_
  refine va_put (D := D) (ci := 10) (v := .int (-1)) (ty := .int) (C := RX10) (T := TX10) (N := 9) hx hb hts inX10 tyX10 tyX10_ok nmX10 hown hK hP hD hS 0 rfl rfl 7 (by decide) (hts (.fieldLink RX10 58 "BoardSums" "faultPlace" "I") (by decide +kernel)) (fun _ h9 => h9) rfl (by decide +kernel) rfl rfl (by simp) dn_X10_init_103 (fun H locs hP hD hS => ?_)
  have hP : va_P D vwCl ((((((([(h0, .inr (10, [.ref q0, .ref q1, .ref q2, .ref q5, .ref q6, .ref q3, .ref q4, .int (-1), .int 0]))] ++ (w_X0_init cy q0 u0)) ++ (w_X5_init cy q1 u1)) ++ (w_X7_init cy q2 u2)) ++ (w_X2_init39 cy q3 u3)) ++ (w_X2_init62 cy q4 u4)) ++ (w_X3_init cy q5 q2 q4 u5)) ++ (w_X9_init cy q6 q0 q1 q3 u6)) H := hP
  have hD : va_D A ((((((([(h0, .inr (10, [.ref q0, .ref q1, .ref q2, .ref q5, .ref q6, .ref q3, .ref q4, .int (-1), .int 0]))] ++ (w_X0_init cy q0 u0)) ++ (w_X5_init cy q1 u1)) ++ (w_X7_init cy q2 u2)) ++ (w_X2_init39 cy q3 u3)) ++ (w_X2_init62 cy q4 u4)) ++ (w_X3_init cy q5 q2 q4 u5)) ++ (w_X9_init cy q6 q0 q1 q3 u6)) := hD
  refine lv_aload_n hx hb dn_X10_init_106 rfl (lv_at hl 0 rfl) ?_
  refine lv_iconst hx hb dn_X10_init_107 (v := 0) rfl ?_
  refine va_put (D := D) (ci := 10) (v := .int 0) (ty := .int) (C := RX10) (T := TX10) (N := 9) hx hb hts inX10 tyX10 tyX10_ok nmX10 hown hK hP hD hS 0 rfl rfl 8 (by decide) (hts (.fieldLink RX10 62 "BoardSums" "refusal" "I") (by decide +kernel)) (fun _ h9 => h9) rfl (by decide +kernel) rfl rfl (by simp) dn_X10_init_108 (fun H locs hP hD hS => ?_)
  have hP : va_P D vwCl ((((((([(h0, .inr (10, [.ref q0, .ref q1, .ref q2, .ref q5, .ref q6, .ref q3, .ref q4, .int (-1), .int 0]))] ++ (w_X0_init cy q0 u0)) ++ (w_X5_init cy q1 u1)) ++ (w_X7_init cy q2 u2)) ++ (w_X2_init39 cy q3 u3)) ++ (w_X2_init62 cy q4 u4)) ++ (w_X3_init cy q5 q2 q4 u5)) ++ (w_X9_init cy q6 q0 q1 q3 u6)) H := hP
  have hD : va_D A ((((((([(h0, .inr (10, [.ref q0, .ref q1, .ref q2, .ref q5, .ref q6, .ref q3, .ref q4, .int (-1), .int 0]))] ++ (w_X0_init cy q0 u0)) ++ (w_X5_init cy q1 u1)) ++ (w_X7_init cy q2 u2)) ++ (w_X2_init39 cy q3 u3)) ++ (w_X2_init62 cy q4 u4)) ++ (w_X3_init cy q5 q2 q4 u5)) ++ (w_X9_init cy q6 q0 q1 q3 u6)) := hD
  exact W.vret hx hb hr (fun t ht hW => ⟨⟨(fun i => [q0, q1, q2, q3, q4, q5, q6].getD i 0, fun i => [u0, u1, u2, u3, u4, u5, u6].getD i (fun _ => 0)), rfl, trivial, by rw [ht]; exact hP, hD⟩, hS.F ht⟩) hS.2.2 dn_X10_init_111

