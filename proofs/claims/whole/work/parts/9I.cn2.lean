/-! constructors: sheets, maker -/
def w_X5_init (cy : Nat → ClassId) (h0 : Nat) (r : Nat → Nat) : va_W := [(h0, .inr (5, [.ref (r 0), .ref (r 5), .ref (r 9)])), (r 0, .inl (cy 5, 4, .inr (.inr (.inr (.inr (fun j => some ([r 1, r 2, r 3, r 4].getD j 0))))))), (r 1, .inl (cy 0, 196, .inl (fun j => Int32.ofInt (k_S 4 j)))), (r 2, .inl (cy 0, 196, .inl (fun j => Int32.ofInt (k_S 5 j)))), (r 3, .inl (cy 0, 196, .inl (fun j => Int32.ofInt (k_S 6 j)))), (r 4, .inl (cy 0, 196, .inl (fun j => Int32.ofInt (k_S 7 j)))), (r 5, .inl (cy 5, 3, .inr (.inr (.inr (.inr (fun j => some ([r 6, r 7, r 8].getD j 0))))))), (r 6, .inl (cy 0, 784, .inl (fun j => Int32.ofInt (k_S 9 j)))), (r 7, .inl (cy 0, 784, .inl (fun j => Int32.ofInt (k_S 10 j)))), (r 8, .inl (cy 0, 784, .inl (fun j => Int32.ofInt (k_S 11 j)))), (r 9, .inl (cy 2, 3, .inl (fun j => Int32.ofInt (k_S 12 j))))]
theorem dn_X5_init_0 : decode cX5_init 0 = .ok (.aload_n 0, 1) := by decide +kernel
theorem dn_X5_init_1 : decode cX5_init 1 = .ok (.invokespecial 3, 3) := by decide +kernel
theorem dn_X5_init_4 : decode cX5_init 4 = .ok (.aload_n 0, 1) := by decide +kernel
theorem dn_X5_init_5 : decode cX5_init 5 = .ok (.iconst 4, 1) := by decide +kernel
theorem dn_X5_init_6 : decode cX5_init 6 = .ok (.sipush 196, 3) := by decide +kernel
theorem dn_X5_init_9 : decode cX5_init 9 = .ok (.multianewarray 9 2, 4) := by decide +kernel
theorem dn_X5_init_13 : decode cX5_init 13 = .ok (.putfield 11, 3) := by decide +kernel
theorem dn_X5_init_16 : decode cX5_init 16 = .ok (.aload_n 0, 1) := by decide +kernel
theorem dn_X5_init_17 : decode cX5_init 17 = .ok (.iconst 3, 1) := by decide +kernel
theorem dn_X5_init_18 : decode cX5_init 18 = .ok (.sipush 784, 3) := by decide +kernel
theorem dn_X5_init_21 : decode cX5_init 21 = .ok (.multianewarray 9 2, 4) := by decide +kernel
theorem dn_X5_init_25 : decode cX5_init 25 = .ok (.putfield 16, 3) := by decide +kernel
theorem dn_X5_init_28 : decode cX5_init 28 = .ok (.aload_n 0, 1) := by decide +kernel
theorem dn_X5_init_29 : decode cX5_init 29 = .ok (.iconst 3, 1) := by decide +kernel
theorem dn_X5_init_30 : decode cX5_init 30 = .ok (.newarray .boolean, 2) := by decide +kernel
theorem dn_X5_init_32 : decode cX5_init 32 = .ok (.putfield 19, 3) := by decide +kernel
theorem dn_X5_init_35 : decode cX5_init 35 = .ok (.aload_n 0, 1) := by decide +kernel
theorem dn_X5_init_36 : decode cX5_init 36 = .ok (.invokevirtual 23, 3) := by decide +kernel
theorem dn_X5_init_39 : decode cX5_init 39 = .ok (.return_, 1) := by decide +kernel
def rn_X5_init : Room := { frames := 2, cells := 10, slots := 3146, locals := 44 }
set_option maxHeartbeats 1000000 in
set_option maxRecDepth 100000 in
theorem Cn_X5_init {l : Launch} {D : va_G} {cy : Nat → ClassId} (h0 sz : Nat) : Met l yX5_init (.code yX5_init cX5_init 1 none :: q_tb) rn_X5_init (va_Pc [.ref h0] (fun U => U.heap.size = sz ∧ va_P D vwCl [(h0, .inr (5, [.null, .null, .null]))] U.heap ∧ va_K D vwCl (q_tys cy) U ∧ va_D (fun _ => True) [(h0, .inr (5, [.null, .null, .null]))] ∧ q_Zc U)) (va_Qv (fun _ : Nat → Nat => True) (fun r t => va_P D vwCl (w_X5_init cy h0 r) t.heap ∧ va_D (va_A [(h0, .inr (5, [.null, .null, .null]))] sz) (w_X5_init cy h0 r)) (va_A [(h0, .inr (5, [.null, .null, .null]))] sz)) 10 3146 (va_A [(h0, .inr (5, [.null, .null, .null]))] sz) := by
  refine Met.ofW (cc := cX5_init) (maxL := 1) (ret := none) (by decide) rfl ?_
  intro p e s m args below meth c s₁ B hml hv
  obtain ⟨rfl, hsz, hP, hK, hD0, hz⟩ := hv
  have hx := B.exec
  have hb := B.bytes
  have hr := B.returns
  have hts0 := atoms_spec (ws := .code yX5_init cX5_init 1 none :: q_tb) B.pre
  have hts : ∀ w ∈ q_tb, w.before _ s = true := fun w h => hts0 w (List.mem_cons_of_mem _ h)
  have hown : s.vm.findClass RX5 = some m.cls := findClass_of_methodNamed B.named
  have hlocks := B.notSynchronized
  have hin : meth.name = "<init>" := (name_of_methodNamed B.named B.method).1
  subst hsz
  have hD := hD0.self (sz := s.heap.size)
  generalize hAe : va_A [(h0, .inr (5, [.null, .null, .null]))] s.heap.size = A at hD ⊢
  have hA : ∀ q : Nat, s.heap.size ≤ q → A q := fun q h => by rw [← hAe]; exact Or.inr h
  have hS : va_S A s.heap s.heap [] := va_S.rf
  have hl := lv_entry ([.ref h0]) (n := 1) (Nat.le_of_ble_eq_true rfl)
  rw [lg_entry_eq]
  generalize (lg_sl ([.ref h0]) ++ List.replicate (1 - (lg_sl ([.ref h0])).length) Slot.unset).toArray = ls at hl ⊢
  have hl : lv_has ls 1 [(0, .ref h0)] := hl
  have hP : va_P D vwCl [(h0, .inr (5, [.null, .null, .null]))] s.heap := hP
  refine lv_aload_n hx hb dn_X5_init_0 rfl (lv_at hl 0 rfl) ?_
  refine W.objInit hx hb hown (hts (.methodLink RX5 3 objectInit) (by decide +kernel)) (hts (.instanceMethod objectInit) (by decide +kernel)) (hts _ cn_code) rfl (by rw [hml]; exact hl.1) rfl dn_X5_init_1 (Nat.le_of_ble_eq_true rfl) (Nat.le_of_ble_eq_true rfl) ?_
  refine W.eq (g2 := F0 m 4 ls []) rfl ?_
  refine lv_aload_n hx hb dn_X5_init_4 rfl (lv_at hl 0 rfl) ?_
  refine lv_iconst hx hb dn_X5_init_5 (v := 4) rfl ?_
  refine lv_sipush hx hb dn_X5_init_6 (v := 196) rfl ?_
  refine cn_mna hx hb hown (hts (.classLink RX5 9 "[[I") (by decide +kernel)) hz.2.2 (hts (.arrayClass .int) (by decide +kernel)) hK hP hD hS hA (by decide +kernel) (by decide +kernel) (N' := 4) (K' := 196) (by decide +kernel) (by decide +kernel) (Nat.le_of_ble_eq_true rfl) (Nat.le_of_ble_eq_true rfl) (Nat.le_of_ble_eq_true rfl) (Nat.le_of_ble_eq_true rfl) dn_X5_init_9 (fun q0 r0 H hP hD hS => ?_)
  have hP : va_P D vwCl [(h0, .inr (5, [.null, .null, .null])), (q0, .inl (cy 5, 4, .inr (.inr (.inr (.inr (fun i => if i < 4 then some (r0 i) else none)))))), ((r0 0), .inl (cy 0, 196, .inl (fun _ => 0))), ((r0 1), .inl (cy 0, 196, .inl (fun _ => 0))), ((r0 2), .inl (cy 0, 196, .inl (fun _ => 0))), ((r0 3), .inl (cy 0, 196, .inl (fun _ => 0)))] H := hP
  have hD : va_D A [(h0, .inr (5, [.null, .null, .null])), (q0, .inl (cy 5, 4, .inr (.inr (.inr (.inr (fun i => if i < 4 then some (r0 i) else none)))))), ((r0 0), .inl (cy 0, 196, .inl (fun _ => 0))), ((r0 1), .inl (cy 0, 196, .inl (fun _ => 0))), ((r0 2), .inl (cy 0, 196, .inl (fun _ => 0))), ((r0 3), .inl (cy 0, 196, .inl (fun _ => 0)))] := hD
  refine W.widen (k := 5) (n := 788) (Nat.le_of_ble_eq_true rfl) (Nat.le_of_ble_eq_true rfl) ?_
  have hP := cn_fix (g := fun j => some ([(r0 0), (r0 1), (r0 2), (r0 3)].getD j 0)) hP (q0 := 1) rfl (fun j hj => by rcases (show j = 0 ∨ j = 1 ∨ j = 2 ∨ j = 3 by omega) with rfl | rfl | rfl | rfl <;> rfl)
  have hD := va_D.set (p := 1) (a := q0) (e := .inl (cy 5, 4, .inr (.inr (.inr (.inr (fun j => some ([(r0 0), (r0 1), (r0 2), (r0 3)].getD j 0))))))) hD rfl
  have hP : va_P D vwCl [(h0, .inr (5, [.null, .null, .null])), (q0, .inl (cy 5, 4, .inr (.inr (.inr (.inr (fun j => some ([(r0 0), (r0 1), (r0 2), (r0 3)].getD j 0))))))), ((r0 0), .inl (cy 0, 196, .inl (fun _ => 0))), ((r0 1), .inl (cy 0, 196, .inl (fun _ => 0))), ((r0 2), .inl (cy 0, 196, .inl (fun _ => 0))), ((r0 3), .inl (cy 0, 196, .inl (fun _ => 0)))] H := hP
  have hD : va_D A [(h0, .inr (5, [.null, .null, .null])), (q0, .inl (cy 5, 4, .inr (.inr (.inr (.inr (fun j => some ([(r0 0), (r0 1), (r0 2), (r0 3)].getD j 0))))))), ((r0 0), .inl (cy 0, 196, .inl (fun _ => 0))), ((r0 1), .inl (cy 0, 196, .inl (fun _ => 0))), ((r0 2), .inl (cy 0, 196, .inl (fun _ => 0))), ((r0 3), .inl (cy 0, 196, .inl (fun _ => 0)))] := hD
  refine va_putF (D := D) (ci := 5) (v := .ref q0) (ty := .array (.array .int)) (C := RX5) (T := TX5) (N := 3) hx hb hts inX5 tyX5 tyX5_ok nmX5 hown hK hP hD hS 0 rfl rfl 0 (by decide) (hts (.fieldLink RX5 11 "BoardSums$Sheets" "cells" "[[I") (by decide +kernel)) (fun _ h9 => h9) rfl hin rfl (by decide +kernel) rfl rfl (by simp) dn_X5_init_13 (fun H locs hP hD hS => ?_)
  have hP : va_P D vwCl [(h0, .inr (5, [.ref q0, .null, .null])), (q0, .inl (cy 5, 4, .inr (.inr (.inr (.inr (fun j => some ([(r0 0), (r0 1), (r0 2), (r0 3)].getD j 0))))))), ((r0 0), .inl (cy 0, 196, .inl (fun _ => 0))), ((r0 1), .inl (cy 0, 196, .inl (fun _ => 0))), ((r0 2), .inl (cy 0, 196, .inl (fun _ => 0))), ((r0 3), .inl (cy 0, 196, .inl (fun _ => 0)))] H := hP
  have hD : va_D A [(h0, .inr (5, [.ref q0, .null, .null])), (q0, .inl (cy 5, 4, .inr (.inr (.inr (.inr (fun j => some ([(r0 0), (r0 1), (r0 2), (r0 3)].getD j 0))))))), ((r0 0), .inl (cy 0, 196, .inl (fun _ => 0))), ((r0 1), .inl (cy 0, 196, .inl (fun _ => 0))), ((r0 2), .inl (cy 0, 196, .inl (fun _ => 0))), ((r0 3), .inl (cy 0, 196, .inl (fun _ => 0)))] := hD
  refine lv_aload_n hx hb dn_X5_init_16 rfl (lv_at hl 0 rfl) ?_
  refine lv_iconst hx hb dn_X5_init_17 (v := 3) rfl ?_
  refine lv_sipush hx hb dn_X5_init_18 (v := 784) rfl ?_
  refine cn_mna hx hb hown (hts (.classLink RX5 9 "[[I") (by decide +kernel)) hz.2.2 (hts (.arrayClass .int) (by decide +kernel)) hK hP hD hS hA (by decide +kernel) (by decide +kernel) (N' := 3) (K' := 784) (by decide +kernel) (by decide +kernel) (Nat.le_of_ble_eq_true rfl) (Nat.le_of_ble_eq_true rfl) (Nat.le_of_ble_eq_true rfl) (Nat.le_of_ble_eq_true rfl) dn_X5_init_21 (fun q5 r5 H hP hD hS => ?_)
  have hP : va_P D vwCl [(h0, .inr (5, [.ref q0, .null, .null])), (q0, .inl (cy 5, 4, .inr (.inr (.inr (.inr (fun j => some ([(r0 0), (r0 1), (r0 2), (r0 3)].getD j 0))))))), ((r0 0), .inl (cy 0, 196, .inl (fun _ => 0))), ((r0 1), .inl (cy 0, 196, .inl (fun _ => 0))), ((r0 2), .inl (cy 0, 196, .inl (fun _ => 0))), ((r0 3), .inl (cy 0, 196, .inl (fun _ => 0))), (q5, .inl (cy 5, 3, .inr (.inr (.inr (.inr (fun i => if i < 3 then some (r5 i) else none)))))), ((r5 0), .inl (cy 0, 784, .inl (fun _ => 0))), ((r5 1), .inl (cy 0, 784, .inl (fun _ => 0))), ((r5 2), .inl (cy 0, 784, .inl (fun _ => 0)))] H := hP
  have hD : va_D A [(h0, .inr (5, [.ref q0, .null, .null])), (q0, .inl (cy 5, 4, .inr (.inr (.inr (.inr (fun j => some ([(r0 0), (r0 1), (r0 2), (r0 3)].getD j 0))))))), ((r0 0), .inl (cy 0, 196, .inl (fun _ => 0))), ((r0 1), .inl (cy 0, 196, .inl (fun _ => 0))), ((r0 2), .inl (cy 0, 196, .inl (fun _ => 0))), ((r0 3), .inl (cy 0, 196, .inl (fun _ => 0))), (q5, .inl (cy 5, 3, .inr (.inr (.inr (.inr (fun i => if i < 3 then some (r5 i) else none)))))), ((r5 0), .inl (cy 0, 784, .inl (fun _ => 0))), ((r5 1), .inl (cy 0, 784, .inl (fun _ => 0))), ((r5 2), .inl (cy 0, 784, .inl (fun _ => 0)))] := hD
  refine W.widen (k := 9) (n := 3143) (Nat.le_of_ble_eq_true rfl) (Nat.le_of_ble_eq_true rfl) ?_
  have hP := cn_fix (g := fun j => some ([(r5 0), (r5 1), (r5 2)].getD j 0)) hP (q0 := 6) rfl (fun j hj => by rcases (show j = 0 ∨ j = 1 ∨ j = 2 by omega) with rfl | rfl | rfl <;> rfl)
  have hD := va_D.set (p := 6) (a := q5) (e := .inl (cy 5, 3, .inr (.inr (.inr (.inr (fun j => some ([(r5 0), (r5 1), (r5 2)].getD j 0))))))) hD rfl
  have hP : va_P D vwCl [(h0, .inr (5, [.ref q0, .null, .null])), (q0, .inl (cy 5, 4, .inr (.inr (.inr (.inr (fun j => some ([(r0 0), (r0 1), (r0 2), (r0 3)].getD j 0))))))), ((r0 0), .inl (cy 0, 196, .inl (fun _ => 0))), ((r0 1), .inl (cy 0, 196, .inl (fun _ => 0))), ((r0 2), .inl (cy 0, 196, .inl (fun _ => 0))), ((r0 3), .inl (cy 0, 196, .inl (fun _ => 0))), (q5, .inl (cy 5, 3, .inr (.inr (.inr (.inr (fun j => some ([(r5 0), (r5 1), (r5 2)].getD j 0))))))), ((r5 0), .inl (cy 0, 784, .inl (fun _ => 0))), ((r5 1), .inl (cy 0, 784, .inl (fun _ => 0))), ((r5 2), .inl (cy 0, 784, .inl (fun _ => 0)))] H := hP
  have hD : va_D A [(h0, .inr (5, [.ref q0, .null, .null])), (q0, .inl (cy 5, 4, .inr (.inr (.inr (.inr (fun j => some ([(r0 0), (r0 1), (r0 2), (r0 3)].getD j 0))))))), ((r0 0), .inl (cy 0, 196, .inl (fun _ => 0))), ((r0 1), .inl (cy 0, 196, .inl (fun _ => 0))), ((r0 2), .inl (cy 0, 196, .inl (fun _ => 0))), ((r0 3), .inl (cy 0, 196, .inl (fun _ => 0))), (q5, .inl (cy 5, 3, .inr (.inr (.inr (.inr (fun j => some ([(r5 0), (r5 1), (r5 2)].getD j 0))))))), ((r5 0), .inl (cy 0, 784, .inl (fun _ => 0))), ((r5 1), .inl (cy 0, 784, .inl (fun _ => 0))), ((r5 2), .inl (cy 0, 784, .inl (fun _ => 0)))] := hD
  refine va_putF (D := D) (ci := 5) (v := .ref q5) (ty := .array (.array .int)) (C := RX5) (T := TX5) (N := 3) hx hb hts inX5 tyX5 tyX5_ok nmX5 hown hK hP hD hS 0 rfl rfl 1 (by decide) (hts (.fieldLink RX5 16 "BoardSums$Sheets" "images" "[[I") (by decide +kernel)) (fun _ h9 => h9) rfl hin rfl (by decide +kernel) rfl rfl (by simp) dn_X5_init_25 (fun H locs hP hD hS => ?_)
  have hP : va_P D vwCl [(h0, .inr (5, [.ref q0, .ref q5, .null])), (q0, .inl (cy 5, 4, .inr (.inr (.inr (.inr (fun j => some ([(r0 0), (r0 1), (r0 2), (r0 3)].getD j 0))))))), ((r0 0), .inl (cy 0, 196, .inl (fun _ => 0))), ((r0 1), .inl (cy 0, 196, .inl (fun _ => 0))), ((r0 2), .inl (cy 0, 196, .inl (fun _ => 0))), ((r0 3), .inl (cy 0, 196, .inl (fun _ => 0))), (q5, .inl (cy 5, 3, .inr (.inr (.inr (.inr (fun j => some ([(r5 0), (r5 1), (r5 2)].getD j 0))))))), ((r5 0), .inl (cy 0, 784, .inl (fun _ => 0))), ((r5 1), .inl (cy 0, 784, .inl (fun _ => 0))), ((r5 2), .inl (cy 0, 784, .inl (fun _ => 0)))] H := hP
  have hD : va_D A [(h0, .inr (5, [.ref q0, .ref q5, .null])), (q0, .inl (cy 5, 4, .inr (.inr (.inr (.inr (fun j => some ([(r0 0), (r0 1), (r0 2), (r0 3)].getD j 0))))))), ((r0 0), .inl (cy 0, 196, .inl (fun _ => 0))), ((r0 1), .inl (cy 0, 196, .inl (fun _ => 0))), ((r0 2), .inl (cy 0, 196, .inl (fun _ => 0))), ((r0 3), .inl (cy 0, 196, .inl (fun _ => 0))), (q5, .inl (cy 5, 3, .inr (.inr (.inr (.inr (fun j => some ([(r5 0), (r5 1), (r5 2)].getD j 0))))))), ((r5 0), .inl (cy 0, 784, .inl (fun _ => 0))), ((r5 1), .inl (cy 0, 784, .inl (fun _ => 0))), ((r5 2), .inl (cy 0, 784, .inl (fun _ => 0)))] := hD
  refine lv_aload_n hx hb dn_X5_init_28 rfl (lv_at hl 0 rfl) ?_
  refine lv_iconst hx hb dn_X5_init_29 (v := 3) rfl ?_
  refine cn_newa (atype := .boolean) (ty := .boolean) hx hb (hts (.arrayClass .boolean) (by decide +kernel)) rfl hK hP hD hS hA (a0 := (3, .inl (fun _ => 0))) 2 rfl (fun _ => rfl) (by decide +kernel) (by decide +kernel) (Nat.le_of_ble_eq_true rfl) (Nat.le_of_ble_eq_true rfl) (Nat.le_of_ble_eq_true rfl) dn_X5_init_30 (fun q9 H hP hD hS => ?_)
  have hP : va_P D vwCl [(h0, .inr (5, [.ref q0, .ref q5, .null])), (q0, .inl (cy 5, 4, .inr (.inr (.inr (.inr (fun j => some ([(r0 0), (r0 1), (r0 2), (r0 3)].getD j 0))))))), ((r0 0), .inl (cy 0, 196, .inl (fun _ => 0))), ((r0 1), .inl (cy 0, 196, .inl (fun _ => 0))), ((r0 2), .inl (cy 0, 196, .inl (fun _ => 0))), ((r0 3), .inl (cy 0, 196, .inl (fun _ => 0))), (q5, .inl (cy 5, 3, .inr (.inr (.inr (.inr (fun j => some ([(r5 0), (r5 1), (r5 2)].getD j 0))))))), ((r5 0), .inl (cy 0, 784, .inl (fun _ => 0))), ((r5 1), .inl (cy 0, 784, .inl (fun _ => 0))), ((r5 2), .inl (cy 0, 784, .inl (fun _ => 0))), (q9, .inl (cy 2, 3, .inl (fun _ => 0)))] H := hP
  have hD : va_D A [(h0, .inr (5, [.ref q0, .ref q5, .null])), (q0, .inl (cy 5, 4, .inr (.inr (.inr (.inr (fun j => some ([(r0 0), (r0 1), (r0 2), (r0 3)].getD j 0))))))), ((r0 0), .inl (cy 0, 196, .inl (fun _ => 0))), ((r0 1), .inl (cy 0, 196, .inl (fun _ => 0))), ((r0 2), .inl (cy 0, 196, .inl (fun _ => 0))), ((r0 3), .inl (cy 0, 196, .inl (fun _ => 0))), (q5, .inl (cy 5, 3, .inr (.inr (.inr (.inr (fun j => some ([(r5 0), (r5 1), (r5 2)].getD j 0))))))), ((r5 0), .inl (cy 0, 784, .inl (fun _ => 0))), ((r5 1), .inl (cy 0, 784, .inl (fun _ => 0))), ((r5 2), .inl (cy 0, 784, .inl (fun _ => 0))), (q9, .inl (cy 2, 3, .inl (fun _ => 0)))] := hD
  refine W.widen (k := 10) (n := 3146) (Nat.le_of_ble_eq_true rfl) (Nat.le_of_ble_eq_true rfl) ?_
  refine va_putF (D := D) (ci := 5) (v := .ref q9) (ty := .array .boolean) (C := RX5) (T := TX5) (N := 3) hx hb hts inX5 tyX5 tyX5_ok nmX5 hown hK hP hD hS 0 rfl rfl 2 (by decide) (hts (.fieldLink RX5 19 "BoardSums$Sheets" "isKept" "[Z") (by decide +kernel)) (fun _ h9 => h9) rfl hin rfl (by decide +kernel) rfl rfl (by simp) dn_X5_init_32 (fun H locs hP hD hS => ?_)
  have hP : va_P D vwCl [(h0, .inr (5, [.ref q0, .ref q5, .ref q9])), (q0, .inl (cy 5, 4, .inr (.inr (.inr (.inr (fun j => some ([(r0 0), (r0 1), (r0 2), (r0 3)].getD j 0))))))), ((r0 0), .inl (cy 0, 196, .inl (fun _ => 0))), ((r0 1), .inl (cy 0, 196, .inl (fun _ => 0))), ((r0 2), .inl (cy 0, 196, .inl (fun _ => 0))), ((r0 3), .inl (cy 0, 196, .inl (fun _ => 0))), (q5, .inl (cy 5, 3, .inr (.inr (.inr (.inr (fun j => some ([(r5 0), (r5 1), (r5 2)].getD j 0))))))), ((r5 0), .inl (cy 0, 784, .inl (fun _ => 0))), ((r5 1), .inl (cy 0, 784, .inl (fun _ => 0))), ((r5 2), .inl (cy 0, 784, .inl (fun _ => 0))), (q9, .inl (cy 2, 3, .inl (fun _ => 0)))] H := hP
  have hD : va_D A [(h0, .inr (5, [.ref q0, .ref q5, .ref q9])), (q0, .inl (cy 5, 4, .inr (.inr (.inr (.inr (fun j => some ([(r0 0), (r0 1), (r0 2), (r0 3)].getD j 0))))))), ((r0 0), .inl (cy 0, 196, .inl (fun _ => 0))), ((r0 1), .inl (cy 0, 196, .inl (fun _ => 0))), ((r0 2), .inl (cy 0, 196, .inl (fun _ => 0))), ((r0 3), .inl (cy 0, 196, .inl (fun _ => 0))), (q5, .inl (cy 5, 3, .inr (.inr (.inr (.inr (fun j => some ([(r5 0), (r5 1), (r5 2)].getD j 0))))))), ((r5 0), .inl (cy 0, 784, .inl (fun _ => 0))), ((r5 1), .inl (cy 0, 784, .inl (fun _ => 0))), ((r5 2), .inl (cy 0, 784, .inl (fun _ => 0))), (q9, .inl (cy 2, 3, .inl (fun _ => 0)))] := hD
  refine lv_aload_n hx hb dn_X5_init_35 rfl (lv_at hl 0 rfl) ?_
  have hP := cn_fix (g := fun j => q_rf (fun a => if a = 2 then h0 else [q0, (r0 0), (r0 1), (r0 2), (r0 3), q5, (r5 0), (r5 1), (r5 2), q9].getD (a - 3).toNat 0) (4 + (j : Int))) hP (q0 := 1) rfl (fun j hj => by rcases (show j = 0 ∨ j = 1 ∨ j = 2 ∨ j = 3 by omega) with rfl | rfl | rfl | rfl <;> rfl)
  have hD := va_D.set (p := 1) (a := q0) (e := .inl (cy 5, 4, .inr (.inr (.inr (.inr (fun j => q_rf (fun a => if a = 2 then h0 else [q0, (r0 0), (r0 1), (r0 2), (r0 3), q5, (r5 0), (r5 1), (r5 2), q9].getD (a - 3).toNat 0) (4 + (j : Int)))))))) hD rfl
  have hP : va_P D vwCl [(h0, .inr (5, [.ref q0, .ref q5, .ref q9])), (q0, .inl (cy 5, 4, .inr (.inr (.inr (.inr (fun j => q_rf (fun a => if a = 2 then h0 else [q0, (r0 0), (r0 1), (r0 2), (r0 3), q5, (r5 0), (r5 1), (r5 2), q9].getD (a - 3).toNat 0) (4 + (j : Int)))))))), ((r0 0), .inl (cy 0, 196, .inl (fun _ => 0))), ((r0 1), .inl (cy 0, 196, .inl (fun _ => 0))), ((r0 2), .inl (cy 0, 196, .inl (fun _ => 0))), ((r0 3), .inl (cy 0, 196, .inl (fun _ => 0))), (q5, .inl (cy 5, 3, .inr (.inr (.inr (.inr (fun j => some ([(r5 0), (r5 1), (r5 2)].getD j 0))))))), ((r5 0), .inl (cy 0, 784, .inl (fun _ => 0))), ((r5 1), .inl (cy 0, 784, .inl (fun _ => 0))), ((r5 2), .inl (cy 0, 784, .inl (fun _ => 0))), (q9, .inl (cy 2, 3, .inl (fun _ => 0)))] H := hP
  have hD : va_D A [(h0, .inr (5, [.ref q0, .ref q5, .ref q9])), (q0, .inl (cy 5, 4, .inr (.inr (.inr (.inr (fun j => q_rf (fun a => if a = 2 then h0 else [q0, (r0 0), (r0 1), (r0 2), (r0 3), q5, (r5 0), (r5 1), (r5 2), q9].getD (a - 3).toNat 0) (4 + (j : Int)))))))), ((r0 0), .inl (cy 0, 196, .inl (fun _ => 0))), ((r0 1), .inl (cy 0, 196, .inl (fun _ => 0))), ((r0 2), .inl (cy 0, 196, .inl (fun _ => 0))), ((r0 3), .inl (cy 0, 196, .inl (fun _ => 0))), (q5, .inl (cy 5, 3, .inr (.inr (.inr (.inr (fun j => some ([(r5 0), (r5 1), (r5 2)].getD j 0))))))), ((r5 0), .inl (cy 0, 784, .inl (fun _ => 0))), ((r5 1), .inl (cy 0, 784, .inl (fun _ => 0))), ((r5 2), .inl (cy 0, 784, .inl (fun _ => 0))), (q9, .inl (cy 2, 3, .inl (fun _ => 0)))] := hD
  have hP := cn_fix (g := fun j => q_rf (fun a => if a = 2 then h0 else [q0, (r0 0), (r0 1), (r0 2), (r0 3), q5, (r5 0), (r5 1), (r5 2), q9].getD (a - 3).toNat 0) (9 + (j : Int))) hP (q0 := 6) rfl (fun j hj => by rcases (show j = 0 ∨ j = 1 ∨ j = 2 by omega) with rfl | rfl | rfl <;> rfl)
  have hD := va_D.set (p := 6) (a := q5) (e := .inl (cy 5, 3, .inr (.inr (.inr (.inr (fun j => q_rf (fun a => if a = 2 then h0 else [q0, (r0 0), (r0 1), (r0 2), (r0 3), q5, (r5 0), (r5 1), (r5 2), q9].getD (a - 3).toNat 0) (9 + (j : Int)))))))) hD rfl
  have hP : va_P D vwCl [(h0, .inr (5, [.ref q0, .ref q5, .ref q9])), (q0, .inl (cy 5, 4, .inr (.inr (.inr (.inr (fun j => q_rf (fun a => if a = 2 then h0 else [q0, (r0 0), (r0 1), (r0 2), (r0 3), q5, (r5 0), (r5 1), (r5 2), q9].getD (a - 3).toNat 0) (4 + (j : Int)))))))), ((r0 0), .inl (cy 0, 196, .inl (fun _ => 0))), ((r0 1), .inl (cy 0, 196, .inl (fun _ => 0))), ((r0 2), .inl (cy 0, 196, .inl (fun _ => 0))), ((r0 3), .inl (cy 0, 196, .inl (fun _ => 0))), (q5, .inl (cy 5, 3, .inr (.inr (.inr (.inr (fun j => q_rf (fun a => if a = 2 then h0 else [q0, (r0 0), (r0 1), (r0 2), (r0 3), q5, (r5 0), (r5 1), (r5 2), q9].getD (a - 3).toNat 0) (9 + (j : Int)))))))), ((r5 0), .inl (cy 0, 784, .inl (fun _ => 0))), ((r5 1), .inl (cy 0, 784, .inl (fun _ => 0))), ((r5 2), .inl (cy 0, 784, .inl (fun _ => 0))), (q9, .inl (cy 2, 3, .inl (fun _ => 0)))] H := hP
  have hD : va_D A [(h0, .inr (5, [.ref q0, .ref q5, .ref q9])), (q0, .inl (cy 5, 4, .inr (.inr (.inr (.inr (fun j => q_rf (fun a => if a = 2 then h0 else [q0, (r0 0), (r0 1), (r0 2), (r0 3), q5, (r5 0), (r5 1), (r5 2), q9].getD (a - 3).toNat 0) (4 + (j : Int)))))))), ((r0 0), .inl (cy 0, 196, .inl (fun _ => 0))), ((r0 1), .inl (cy 0, 196, .inl (fun _ => 0))), ((r0 2), .inl (cy 0, 196, .inl (fun _ => 0))), ((r0 3), .inl (cy 0, 196, .inl (fun _ => 0))), (q5, .inl (cy 5, 3, .inr (.inr (.inr (.inr (fun j => q_rf (fun a => if a = 2 then h0 else [q0, (r0 0), (r0 1), (r0 2), (r0 3), q5, (r5 0), (r5 1), (r5 2), q9].getD (a - 3).toNat 0) (9 + (j : Int)))))))), ((r5 0), .inl (cy 0, 784, .inl (fun _ => 0))), ((r5 1), .inl (cy 0, 784, .inl (fun _ => 0))), ((r5 2), .inl (cy 0, 784, .inl (fun _ => 0))), (q9, .inl (cy 2, 3, .inl (fun _ => 0)))] := hD
  refine cn_call (own := RX5) (rA := []) (b := 2) (ci := 5) (ad := fun a => if a = 2 then h0 else [q0, (r0 0), (r0 1), (r0 2), (r0 3), q5, (r5 0), (r5 1), (r5 2), q9].getD (a - 3).toNat 0) (T := q_Tm [2, 3, 4, 5, 6, 7, 8, 9, 10, 11, 12]) (N := [2, 3, 4, 5, 6, 7, 8, 9, 10, 11, 12]) (μ := k_0) (μ' := k_S) (rest := []) (wr := []) hx hb hml hown hts hK (zc_ok _) hz (fun U hW => zc_warm hW hz) (Cg_X5_empty (T := q_Tm [2, 3, 4, 5, 6, 7, 8, 9, 10, 11, 12]) (N := [2, 3, 4, 5, 6, 7, 8, 9, 10, 11, 12]) (zc_ok _) (q_wokM (by decide)) (fun a q => by rcases (show a = 2 ∨ a = 3 ∨ a = 4 ∨ a = 5 ∨ a = 6 ∨ a = 7 ∨ a = 8 ∨ a = 9 ∨ a = 10 ∨ a = 11 ∨ a = 12 by omega) with rfl | rfl | rfl | rfl | rfl | rfl | rfl | rfl | rfl | rfl | rfl <;> rfl)) (q_wokM (by decide)) (by decide +kernel) (by decide +kernel) (by decide +kernel) (by decide +kernel) (by decide +kernel) (by decide +kernel) ⟨rfl, rfl⟩ (by decide) (by decide) rfl rfl rfl rfl (by rw [show ([] ++ [.inr (.inr 2)] : List QV) = [.inr (.inr 2)] from rfl, sp_X5_empty_e]; exact ⟨rfl, rfl, rfl⟩) hl.1 (by decide) dn_X5_init_36 [0, 1, 2, 3, 4, 5, 6, 7, 8, 9, 10] [] rfl rfl (by decide) (by decide) (by decide) hP hD hS hA (fun H locs hP hD hS => ?_)
  have hP : va_P D vwCl [(h0, .inr (5, [.ref q0, .ref q5, .ref q9])), (q0, .inl (cy 5, 4, .inr (.inr (.inr (.inr (fun j => q_rf (fun a => if a = 2 then h0 else [q0, (r0 0), (r0 1), (r0 2), (r0 3), q5, (r5 0), (r5 1), (r5 2), q9].getD (a - 3).toNat 0) (4 + (j : Int)))))))), ((r0 0), .inl (cy 0, 196, .inl (fun j => Int32.ofInt (k_S 4 j)))), ((r0 1), .inl (cy 0, 196, .inl (fun j => Int32.ofInt (k_S 5 j)))), ((r0 2), .inl (cy 0, 196, .inl (fun j => Int32.ofInt (k_S 6 j)))), ((r0 3), .inl (cy 0, 196, .inl (fun j => Int32.ofInt (k_S 7 j)))), (q5, .inl (cy 5, 3, .inr (.inr (.inr (.inr (fun j => q_rf (fun a => if a = 2 then h0 else [q0, (r0 0), (r0 1), (r0 2), (r0 3), q5, (r5 0), (r5 1), (r5 2), q9].getD (a - 3).toNat 0) (9 + (j : Int)))))))), ((r5 0), .inl (cy 0, 784, .inl (fun j => Int32.ofInt (k_S 9 j)))), ((r5 1), .inl (cy 0, 784, .inl (fun j => Int32.ofInt (k_S 10 j)))), ((r5 2), .inl (cy 0, 784, .inl (fun j => Int32.ofInt (k_S 11 j)))), (q9, .inl (cy 2, 3, .inl (fun j => Int32.ofInt (k_S 12 j))))] H := hP
  have hD : va_D A [(h0, .inr (5, [.ref q0, .ref q5, .ref q9])), (q0, .inl (cy 5, 4, .inr (.inr (.inr (.inr (fun j => q_rf (fun a => if a = 2 then h0 else [q0, (r0 0), (r0 1), (r0 2), (r0 3), q5, (r5 0), (r5 1), (r5 2), q9].getD (a - 3).toNat 0) (4 + (j : Int)))))))), ((r0 0), .inl (cy 0, 196, .inl (fun j => Int32.ofInt (k_S 4 j)))), ((r0 1), .inl (cy 0, 196, .inl (fun j => Int32.ofInt (k_S 5 j)))), ((r0 2), .inl (cy 0, 196, .inl (fun j => Int32.ofInt (k_S 6 j)))), ((r0 3), .inl (cy 0, 196, .inl (fun j => Int32.ofInt (k_S 7 j)))), (q5, .inl (cy 5, 3, .inr (.inr (.inr (.inr (fun j => q_rf (fun a => if a = 2 then h0 else [q0, (r0 0), (r0 1), (r0 2), (r0 3), q5, (r5 0), (r5 1), (r5 2), q9].getD (a - 3).toNat 0) (9 + (j : Int)))))))), ((r5 0), .inl (cy 0, 784, .inl (fun j => Int32.ofInt (k_S 9 j)))), ((r5 1), .inl (cy 0, 784, .inl (fun j => Int32.ofInt (k_S 10 j)))), ((r5 2), .inl (cy 0, 784, .inl (fun j => Int32.ofInt (k_S 11 j)))), (q9, .inl (cy 2, 3, .inl (fun j => Int32.ofInt (k_S 12 j))))] := hD
  have hP := cn_fix (g := fun j => some ([(r0 0), (r0 1), (r0 2), (r0 3)].getD j 0)) hP (q0 := 1) rfl (fun j hj => by rcases (show j = 0 ∨ j = 1 ∨ j = 2 ∨ j = 3 by omega) with rfl | rfl | rfl | rfl <;> rfl)
  have hD := va_D.set (p := 1) (a := q0) (e := .inl (cy 5, 4, .inr (.inr (.inr (.inr (fun j => some ([(r0 0), (r0 1), (r0 2), (r0 3)].getD j 0))))))) hD rfl
  have hP := cn_fix (g := fun j => some ([(r5 0), (r5 1), (r5 2)].getD j 0)) hP (q0 := 6) rfl (fun j hj => by rcases (show j = 0 ∨ j = 1 ∨ j = 2 by omega) with rfl | rfl | rfl <;> rfl)
  have hD := va_D.set (p := 6) (a := q5) (e := .inl (cy 5, 3, .inr (.inr (.inr (.inr (fun j => some ([(r5 0), (r5 1), (r5 2)].getD j 0))))))) hD rfl
  have hP : va_P D vwCl [(h0, .inr (5, [.ref q0, .ref q5, .ref q9])), (q0, .inl (cy 5, 4, .inr (.inr (.inr (.inr (fun j => some ([(r0 0), (r0 1), (r0 2), (r0 3)].getD j 0))))))), ((r0 0), .inl (cy 0, 196, .inl (fun j => Int32.ofInt (k_S 4 j)))), ((r0 1), .inl (cy 0, 196, .inl (fun j => Int32.ofInt (k_S 5 j)))), ((r0 2), .inl (cy 0, 196, .inl (fun j => Int32.ofInt (k_S 6 j)))), ((r0 3), .inl (cy 0, 196, .inl (fun j => Int32.ofInt (k_S 7 j)))), (q5, .inl (cy 5, 3, .inr (.inr (.inr (.inr (fun j => some ([(r5 0), (r5 1), (r5 2)].getD j 0))))))), ((r5 0), .inl (cy 0, 784, .inl (fun j => Int32.ofInt (k_S 9 j)))), ((r5 1), .inl (cy 0, 784, .inl (fun j => Int32.ofInt (k_S 10 j)))), ((r5 2), .inl (cy 0, 784, .inl (fun j => Int32.ofInt (k_S 11 j)))), (q9, .inl (cy 2, 3, .inl (fun j => Int32.ofInt (k_S 12 j))))] H := hP
  have hD : va_D A [(h0, .inr (5, [.ref q0, .ref q5, .ref q9])), (q0, .inl (cy 5, 4, .inr (.inr (.inr (.inr (fun j => some ([(r0 0), (r0 1), (r0 2), (r0 3)].getD j 0))))))), ((r0 0), .inl (cy 0, 196, .inl (fun j => Int32.ofInt (k_S 4 j)))), ((r0 1), .inl (cy 0, 196, .inl (fun j => Int32.ofInt (k_S 5 j)))), ((r0 2), .inl (cy 0, 196, .inl (fun j => Int32.ofInt (k_S 6 j)))), ((r0 3), .inl (cy 0, 196, .inl (fun j => Int32.ofInt (k_S 7 j)))), (q5, .inl (cy 5, 3, .inr (.inr (.inr (.inr (fun j => some ([(r5 0), (r5 1), (r5 2)].getD j 0))))))), ((r5 0), .inl (cy 0, 784, .inl (fun j => Int32.ofInt (k_S 9 j)))), ((r5 1), .inl (cy 0, 784, .inl (fun j => Int32.ofInt (k_S 10 j)))), ((r5 2), .inl (cy 0, 784, .inl (fun j => Int32.ofInt (k_S 11 j)))), (q9, .inl (cy 2, 3, .inl (fun j => Int32.ofInt (k_S 12 j))))] := hD
  have hP9 := hP.sub (ws' := w_X5_init cy h0 (fun i => [q0, (r0 0), (r0 1), (r0 2), (r0 3), q5, (r5 0), (r5 1), (r5 2), q9].getD i 0)) [0, 1, 2, 3, 4, 5, 6, 7, 8, 9, 10] rfl
  have hD9 := hD.sub (ws' := w_X5_init cy h0 (fun i => [q0, (r0 0), (r0 1), (r0 2), (r0 3), q5, (r5 0), (r5 1), (r5 2), q9].getD i 0)) [0, 1, 2, 3, 4, 5, 6, 7, 8, 9, 10] (by decide) rfl
  exact W.vret hx hb hr (fun t ht hW => ⟨⟨fun i => [q0, (r0 0), (r0 1), (r0 2), (r0 3), q5, (r5 0), (r5 1), (r5 2), q9].getD i 0, rfl, trivial, by rw [ht]; exact hP9, hD9⟩, hS.F ht⟩) hS.2.2 dn_X5_init_39
def w_X1_init (cy : Nat → ClassId) (h0 a1 a2 a3 : Nat) (r : Nat → Nat) : va_W := [(h0, .inr (1, [.ref a1, .ref a2, .ref a3, .ref (r 0), .ref (r 1), .ref (r 2), .ref (r 3)])), (r 0, .inr (6, [.long 0, .int 0, .int 0, .int 0])), (r 1, .inl (cy 0, 4, .inl (fun j => Int32.ofInt (k_V 36 j)))), (r 2, .inl (cy 0, 196, .inl (fun _ => 0))), (r 3, .inl (cy 2, 196, .inl (fun _ => 0)))]
theorem dn_X1_init_0 : decode cX1_init 0 = .ok (.aload_n 0, 1) := by decide +kernel
theorem dn_X1_init_1 : decode cX1_init 1 = .ok (.invokespecial 3, 3) := by decide +kernel
theorem dn_X1_init_4 : decode cX1_init 4 = .ok (.aload_n 0, 1) := by decide +kernel
theorem dn_X1_init_5 : decode cX1_init 5 = .ok (.new 9, 3) := by decide +kernel
theorem dn_X1_init_8 : decode cX1_init 8 = .ok (.dup, 1) := by decide +kernel
theorem dn_X1_init_9 : decode cX1_init 9 = .ok (.invokespecial 11, 3) := by decide +kernel
theorem dn_X1_init_12 : decode cX1_init 12 = .ok (.putfield 12, 3) := by decide +kernel
theorem dn_X1_init_15 : decode cX1_init 15 = .ok (.aload_n 0, 1) := by decide +kernel
theorem dn_X1_init_16 : decode cX1_init 16 = .ok (.iconst 4, 1) := by decide +kernel
theorem dn_X1_init_17 : decode cX1_init 17 = .ok (.newarray .int, 2) := by decide +kernel
theorem dn_X1_init_19 : decode cX1_init 19 = .ok (.dup, 1) := by decide +kernel
theorem dn_X1_init_20 : decode cX1_init 20 = .ok (.iconst 0, 1) := by decide +kernel
theorem dn_X1_init_21 : decode cX1_init 21 = .ok (.iconst 1, 1) := by decide +kernel
theorem dn_X1_init_22 : decode cX1_init 22 = .ok (.iastore, 1) := by decide +kernel
theorem dn_X1_init_23 : decode cX1_init 23 = .ok (.dup, 1) := by decide +kernel
theorem dn_X1_init_24 : decode cX1_init 24 = .ok (.iconst 1, 1) := by decide +kernel
theorem dn_X1_init_25 : decode cX1_init 25 = .ok (.bipush 14, 2) := by decide +kernel
theorem dn_X1_init_27 : decode cX1_init 27 = .ok (.iastore, 1) := by decide +kernel
theorem dn_X1_init_28 : decode cX1_init 28 = .ok (.dup, 1) := by decide +kernel
theorem dn_X1_init_29 : decode cX1_init 29 = .ok (.iconst 2, 1) := by decide +kernel
theorem dn_X1_init_30 : decode cX1_init 30 = .ok (.iconst (-1), 1) := by decide +kernel
theorem dn_X1_init_31 : decode cX1_init 31 = .ok (.iastore, 1) := by decide +kernel
theorem dn_X1_init_32 : decode cX1_init 32 = .ok (.dup, 1) := by decide +kernel
theorem dn_X1_init_33 : decode cX1_init 33 = .ok (.iconst 3, 1) := by decide +kernel
theorem dn_X1_init_34 : decode cX1_init 34 = .ok (.bipush (-14), 2) := by decide +kernel
theorem dn_X1_init_36 : decode cX1_init 36 = .ok (.iastore, 1) := by decide +kernel
theorem dn_X1_init_37 : decode cX1_init 37 = .ok (.putfield 18, 3) := by decide +kernel
theorem dn_X1_init_40 : decode cX1_init 40 = .ok (.aload_n 0, 1) := by decide +kernel
theorem dn_X1_init_41 : decode cX1_init 41 = .ok (.sipush 196, 3) := by decide +kernel
theorem dn_X1_init_44 : decode cX1_init 44 = .ok (.newarray .int, 2) := by decide +kernel
theorem dn_X1_init_46 : decode cX1_init 46 = .ok (.putfield 22, 3) := by decide +kernel
theorem dn_X1_init_49 : decode cX1_init 49 = .ok (.aload_n 0, 1) := by decide +kernel
theorem dn_X1_init_50 : decode cX1_init 50 = .ok (.sipush 196, 3) := by decide +kernel
theorem dn_X1_init_53 : decode cX1_init 53 = .ok (.newarray .boolean, 2) := by decide +kernel
theorem dn_X1_init_55 : decode cX1_init 55 = .ok (.putfield 25, 3) := by decide +kernel
theorem dn_X1_init_58 : decode cX1_init 58 = .ok (.aload_n 0, 1) := by decide +kernel
theorem dn_X1_init_59 : decode cX1_init 59 = .ok (.aload_n 1, 1) := by decide +kernel
theorem dn_X1_init_60 : decode cX1_init 60 = .ok (.putfield 29, 3) := by decide +kernel
theorem dn_X1_init_63 : decode cX1_init 63 = .ok (.aload_n 0, 1) := by decide +kernel
theorem dn_X1_init_64 : decode cX1_init 64 = .ok (.aload_n 2, 1) := by decide +kernel
theorem dn_X1_init_65 : decode cX1_init 65 = .ok (.putfield 33, 3) := by decide +kernel
theorem dn_X1_init_68 : decode cX1_init 68 = .ok (.aload_n 0, 1) := by decide +kernel
theorem dn_X1_init_69 : decode cX1_init 69 = .ok (.aload_n 3, 1) := by decide +kernel
theorem dn_X1_init_70 : decode cX1_init 70 = .ok (.putfield 37, 3) := by decide +kernel
theorem dn_X1_init_73 : decode cX1_init 73 = .ok (.return_, 1) := by decide +kernel
def rn_X1_init : Room := { frames := 2, cells := 4, slots := 400, locals := 32 }
set_option maxHeartbeats 1000000 in
set_option maxRecDepth 100000 in
theorem Cn_X1_init {l : Launch} {D : va_G} {cy : Nat → ClassId} (h0 a1 a2 a3 sz : Nat) : Met l yX1_init (.code yX1_init cX1_init 4 none :: q_tb) rn_X1_init (va_Pc [.ref h0, .ref a1, .ref a2, .ref a3] (fun U => U.heap.size = sz ∧ va_P D vwCl [(h0, .inr (1, [.null, .null, .null, .null, .null, .null, .null]))] U.heap ∧ va_K D vwCl (q_tys cy) U ∧ va_D (fun _ => True) [(h0, .inr (1, [.null, .null, .null, .null, .null, .null, .null]))] ∧ q_Zc U)) (va_Qv (fun _ : Nat → Nat => True) (fun r t => va_P D vwCl (w_X1_init cy h0 a1 a2 a3 r) t.heap ∧ va_D (va_A [(h0, .inr (1, [.null, .null, .null, .null, .null, .null, .null]))] sz) (w_X1_init cy h0 a1 a2 a3 r)) (va_A [(h0, .inr (1, [.null, .null, .null, .null, .null, .null, .null]))] sz)) 4 400 (va_A [(h0, .inr (1, [.null, .null, .null, .null, .null, .null, .null]))] sz) := by
  refine Met.ofW (cc := cX1_init) (maxL := 4) (ret := none) (by decide) rfl ?_
  intro p e s m args below meth c s₁ B hml hv
  obtain ⟨rfl, hsz, hP, hK, hD0, hz⟩ := hv
  have hx := B.exec
  have hb := B.bytes
  have hr := B.returns
  have hts0 := atoms_spec (ws := .code yX1_init cX1_init 4 none :: q_tb) B.pre
  have hts : ∀ w ∈ q_tb, w.before _ s = true := fun w h => hts0 w (List.mem_cons_of_mem _ h)
  have hown : s.vm.findClass RX1 = some m.cls := findClass_of_methodNamed B.named
  have hlocks := B.notSynchronized
  have hin : meth.name = "<init>" := (name_of_methodNamed B.named B.method).1
  subst hsz
  have hD := hD0.self (sz := s.heap.size)
  generalize hAe : va_A [(h0, .inr (1, [.null, .null, .null, .null, .null, .null, .null]))] s.heap.size = A at hD ⊢
  have hA : ∀ q : Nat, s.heap.size ≤ q → A q := fun q h => by rw [← hAe]; exact Or.inr h
  have hS : va_S A s.heap s.heap [] := va_S.rf
  have hl := lv_entry ([.ref h0, .ref a1, .ref a2, .ref a3]) (n := 4) (Nat.le_of_ble_eq_true rfl)
  rw [lg_entry_eq]
  generalize (lg_sl ([.ref h0, .ref a1, .ref a2, .ref a3]) ++ List.replicate (4 - (lg_sl ([.ref h0, .ref a1, .ref a2, .ref a3])).length) Slot.unset).toArray = ls at hl ⊢
  have hl : lv_has ls 4 [(0, .ref h0), (1, .ref a1), (2, .ref a2), (3, .ref a3)] := hl
  have hP : va_P D vwCl [(h0, .inr (1, [.null, .null, .null, .null, .null, .null, .null]))] s.heap := hP
  refine lv_aload_n hx hb dn_X1_init_0 rfl (lv_at hl 0 rfl) ?_
  refine W.objInit hx hb hown (hts (.methodLink RX1 3 objectInit) (by decide +kernel)) (hts (.instanceMethod objectInit) (by decide +kernel)) (hts _ cn_code) rfl (by rw [hml]; exact hl.1) rfl dn_X1_init_1 (Nat.le_of_ble_eq_true rfl) (Nat.le_of_ble_eq_true rfl) ?_
  refine W.eq (g2 := F0 m 4 ls []) rfl ?_
  refine lv_aload_n hx hb dn_X1_init_4 rfl (lv_at hl 0 rfl) ?_
  refine va_new (ci := 6) (fs := [.long 0, .int 0, .int 0, .int 0]) (C := RX6) (T := TX6) (N := 4) hx hb hts inX6 tyX6 tyX6_ok hown (hts (.classLink RX1 9 RX6) (by decide +kernel)) (hts (.instantiable RX6 4) (by decide +kernel)) (hts (.initialized RX6) (by decide +kernel)) hK hP hD hS hA rfl (fun j hj => by rcases (show j = 0 ∨ j = 1 ∨ j = 2 ∨ j = 3 by omega) with rfl | rfl | rfl | rfl <;> rfl) (Nat.le_of_ble_eq_true rfl) (Nat.le_of_ble_eq_true rfl) dn_X1_init_5 (fun q0 H hP hD hS => ?_)
  have hP : va_P D vwCl [(h0, .inr (1, [.null, .null, .null, .null, .null, .null, .null])), (q0, .inr (6, [.long 0, .int 0, .int 0, .int 0]))] H := hP
  have hD : va_D A [(h0, .inr (1, [.null, .null, .null, .null, .null, .null, .null])), (q0, .inr (6, [.long 0, .int 0, .int 0, .int 0]))] := hD
  refine W.widen (k := 1) (n := 4) (Nat.le_of_ble_eq_true rfl) (Nat.le_of_ble_eq_true rfl) ?_
  refine lv_dup hx hb dn_X1_init_8 rfl ?_
  have hPc := hP.sub (ws' := [(q0, .inr (6, [.long 0, .int 0, .int 0, .int 0]))]) [1] rfl
  have hDc := hD.sub (ws' := [(q0, .inr (6, [.long 0, .int 0, .int 0, .int 0]))]) [1] (by decide) rfl
  have hFc := va_free (wc := [(q0, .inr (6, [.long 0, .int 0, .int 0, .int 0]))]) hD hS hA [1] rfl
  refine va_callv (va_runIN (As := []) (rest := [.ref q0, .ref h0]) ⟨hx, hb, hml, hown, hts⟩ (Cn_X6_init (l := l) (D := D) (cy := cy) q0 H.size) ⟨va_cnB (host := "BoardSums") 0 hts (q_goodW (show Cond.code yX6_init cX6_init 1 none ∈ q_tb by decide +kernel)) rfl rfl rfl (hz.1 (RX1, 11, yX6_init, "BoardSums") (List.mem_of_getElem? (i := 6) rfl)) (hts (.initialized RX6) (by decide +kernel)) (by decide +kernel) ⟨Nat.le_of_ble_eq_true rfl, Nat.le_of_ble_eq_true rfl⟩, rfl, hts (.instanceMethod yX6_init) (by decide +kernel)⟩ ⟨fun a U g mk q => by obtain ⟨q0, q1, qP, qK, qD, qZ⟩ := q; exact ⟨q0, q1, qP, va_K.moved (u := U) (U := U.calling g mk a) (Vm.Alike.refl U.vm) qK, qD, zc_same (s := U) rfl qZ⟩, fun U hU hW => ⟨rfl, by rw [hU], by rw [hU]; exact hPc, va_K.moved hW.alike hK, hDc.weaken (fun _ _ _ _ => trivial), zc_warm hW hz⟩⟩ rfl rfl hl.1 rfl (lv_room (Nat.le_of_ble_eq_true rfl)) dn_X1_init_9 ⟨Nat.le_of_ble_eq_true rfl, Nat.le_of_ble_eq_true rfl⟩) hS (fun q _ h => hFc q h) hFc (fun u9 t H1 locs ht hvm _ hB hz1 hk1 hS => ?_)
  obtain ⟨hP1, hD1⟩ := hB
  rw [ht] at hP1
  obtain ⟨hP, hD⟩ := va_join (wr := [(h0, .inr (1, [.null, .null, .null, .null, .null, .null, .null]))]) (w1 := [(q0, .inr (6, [.long 0, .int 0, .int 0, .int 0]))]) hP hD [1] [0] rfl rfl (by decide) (by decide) hk1 hFc hP1 hD1
  generalize H1 = H at hP hS ⊢
  have hP : va_P D vwCl [(h0, .inr (1, [.null, .null, .null, .null, .null, .null, .null])), (q0, .inr (6, [.long 0, .int 0, .int 0, .int 0]))] H := hP
  have hD : va_D A [(h0, .inr (1, [.null, .null, .null, .null, .null, .null, .null])), (q0, .inr (6, [.long 0, .int 0, .int 0, .int 0]))] := hD
  refine W.widen (k := 1) (n := 4) (Nat.le_of_ble_eq_true rfl) (Nat.le_of_ble_eq_true rfl) ?_
  refine va_putF (D := D) (ci := 1) (v := .ref q0) (ty := .object "BoardSums$Tally") (C := RX1) (T := TX1) (N := 7) hx hb hts inX1 tyX1 tyX1_ok nmX1 hown hK hP hD hS 0 rfl rfl 3 (by decide) (hts (.fieldLink RX1 12 "BoardSums$Maker" "tally" "LBoardSums$Tally;") (by decide +kernel)) (fun _ h9 => h9) rfl hin rfl (by decide +kernel) rfl rfl (by simp) dn_X1_init_12 (fun H locs hP hD hS => ?_)
  have hP : va_P D vwCl [(h0, .inr (1, [.null, .null, .null, .ref q0, .null, .null, .null])), (q0, .inr (6, [.long 0, .int 0, .int 0, .int 0]))] H := hP
  have hD : va_D A [(h0, .inr (1, [.null, .null, .null, .ref q0, .null, .null, .null])), (q0, .inr (6, [.long 0, .int 0, .int 0, .int 0]))] := hD
  refine lv_aload_n hx hb dn_X1_init_15 rfl (lv_at hl 0 rfl) ?_
  refine lv_iconst hx hb dn_X1_init_16 (v := 4) rfl ?_
  refine cn_newa (atype := .int) (ty := .int) hx hb (hts (.arrayClass .int) (by decide +kernel)) rfl hK hP hD hS hA (a0 := (4, .inl (fun _ => 0))) 0 rfl (fun _ => rfl) (by decide +kernel) (by decide +kernel) (Nat.le_of_ble_eq_true rfl) (Nat.le_of_ble_eq_true rfl) (Nat.le_of_ble_eq_true rfl) dn_X1_init_17 (fun q1 H hP hD hS => ?_)
  have hP : va_P D vwCl [(h0, .inr (1, [.null, .null, .null, .ref q0, .null, .null, .null])), (q0, .inr (6, [.long 0, .int 0, .int 0, .int 0])), (q1, .inl (cy 0, 4, .inl (fun _ => 0)))] H := hP
  have hD : va_D A [(h0, .inr (1, [.null, .null, .null, .ref q0, .null, .null, .null])), (q0, .inr (6, [.long 0, .int 0, .int 0, .int 0])), (q1, .inl (cy 0, 4, .inl (fun _ => 0)))] := hD
  refine W.widen (k := 2) (n := 8) (Nat.le_of_ble_eq_true rfl) (Nat.le_of_ble_eq_true rfl) ?_
  refine lv_dup hx hb dn_X1_init_19 rfl ?_
  refine lv_iconst hx hb dn_X1_init_20 (v := 0) rfl ?_
  refine lv_iconst hx hb dn_X1_init_21 (v := 1) rfl ?_
  refine va_iast hx hb hK hP hD hS 2 0 rfl rfl (i := 0) (by unfold vp_in; decide +kernel) dn_X1_init_22 (fun H locs hP hD hS => ?_)
  have hP : va_P D vwCl [(h0, .inr (1, [.null, .null, .null, .ref q0, .null, .null, .null])), (q0, .inr (6, [.long 0, .int 0, .int 0, .int 0])), (q1, .inl (cy 0, 4, .inl (upd (fun _ => 0) 0 1)))] H := hP
  have hD : va_D A [(h0, .inr (1, [.null, .null, .null, .ref q0, .null, .null, .null])), (q0, .inr (6, [.long 0, .int 0, .int 0, .int 0])), (q1, .inl (cy 0, 4, .inl (upd (fun _ => 0) 0 1)))] := hD
  refine lv_dup hx hb dn_X1_init_23 rfl ?_
  refine lv_iconst hx hb dn_X1_init_24 (v := 1) rfl ?_
  refine lv_bipush hx hb dn_X1_init_25 (v := 14) rfl ?_
  refine va_iast hx hb hK hP hD hS 2 0 rfl rfl (i := 1) (by unfold vp_in; decide +kernel) dn_X1_init_27 (fun H locs hP hD hS => ?_)
  have hP : va_P D vwCl [(h0, .inr (1, [.null, .null, .null, .ref q0, .null, .null, .null])), (q0, .inr (6, [.long 0, .int 0, .int 0, .int 0])), (q1, .inl (cy 0, 4, .inl (upd (upd (fun _ => 0) 0 1) 1 14)))] H := hP
  have hD : va_D A [(h0, .inr (1, [.null, .null, .null, .ref q0, .null, .null, .null])), (q0, .inr (6, [.long 0, .int 0, .int 0, .int 0])), (q1, .inl (cy 0, 4, .inl (upd (upd (fun _ => 0) 0 1) 1 14)))] := hD
  refine lv_dup hx hb dn_X1_init_28 rfl ?_
  refine lv_iconst hx hb dn_X1_init_29 (v := 2) rfl ?_
  refine lv_iconst hx hb dn_X1_init_30 (v := (-1)) rfl ?_
  refine va_iast hx hb hK hP hD hS 2 0 rfl rfl (i := 2) (by unfold vp_in; decide +kernel) dn_X1_init_31 (fun H locs hP hD hS => ?_)
  have hP : va_P D vwCl [(h0, .inr (1, [.null, .null, .null, .ref q0, .null, .null, .null])), (q0, .inr (6, [.long 0, .int 0, .int 0, .int 0])), (q1, .inl (cy 0, 4, .inl (upd (upd (upd (fun _ => 0) 0 1) 1 14) 2 (-1))))] H := hP
  have hD : va_D A [(h0, .inr (1, [.null, .null, .null, .ref q0, .null, .null, .null])), (q0, .inr (6, [.long 0, .int 0, .int 0, .int 0])), (q1, .inl (cy 0, 4, .inl (upd (upd (upd (fun _ => 0) 0 1) 1 14) 2 (-1))))] := hD
  refine lv_dup hx hb dn_X1_init_32 rfl ?_
  refine lv_iconst hx hb dn_X1_init_33 (v := 3) rfl ?_
  refine lv_bipush hx hb dn_X1_init_34 (v := (-14)) rfl ?_
  refine va_iast hx hb hK hP hD hS 2 0 rfl rfl (i := 3) (by unfold vp_in; decide +kernel) dn_X1_init_36 (fun H locs hP hD hS => ?_)
  have hP : va_P D vwCl [(h0, .inr (1, [.null, .null, .null, .ref q0, .null, .null, .null])), (q0, .inr (6, [.long 0, .int 0, .int 0, .int 0])), (q1, .inl (cy 0, 4, .inl (upd (upd (upd (upd (fun _ => 0) 0 1) 1 14) 2 (-1)) 3 (-14))))] H := hP
  have hD : va_D A [(h0, .inr (1, [.null, .null, .null, .ref q0, .null, .null, .null])), (q0, .inr (6, [.long 0, .int 0, .int 0, .int 0])), (q1, .inl (cy 0, 4, .inl (upd (upd (upd (upd (fun _ => 0) 0 1) 1 14) 2 (-1)) 3 (-14))))] := hD
  refine va_putF (D := D) (ci := 1) (v := .ref q1) (ty := .array .int) (C := RX1) (T := TX1) (N := 7) hx hb hts inX1 tyX1 tyX1_ok nmX1 hown hK hP hD hS 0 rfl rfl 4 (by decide) (hts (.fieldLink RX1 18 "BoardSums$Maker" "sides" "[I") (by decide +kernel)) (fun _ h9 => h9) rfl hin rfl (by decide +kernel) rfl rfl (by simp) dn_X1_init_37 (fun H locs hP hD hS => ?_)
  have hP : va_P D vwCl [(h0, .inr (1, [.null, .null, .null, .ref q0, .ref q1, .null, .null])), (q0, .inr (6, [.long 0, .int 0, .int 0, .int 0])), (q1, .inl (cy 0, 4, .inl (upd (upd (upd (upd (fun _ => 0) 0 1) 1 14) 2 (-1)) 3 (-14))))] H := hP
  have hD : va_D A [(h0, .inr (1, [.null, .null, .null, .ref q0, .ref q1, .null, .null])), (q0, .inr (6, [.long 0, .int 0, .int 0, .int 0])), (q1, .inl (cy 0, 4, .inl (upd (upd (upd (upd (fun _ => 0) 0 1) 1 14) 2 (-1)) 3 (-14))))] := hD
  refine lv_aload_n hx hb dn_X1_init_40 rfl (lv_at hl 0 rfl) ?_
  refine lv_sipush hx hb dn_X1_init_41 (v := 196) rfl ?_
  refine cn_newa (atype := .int) (ty := .int) hx hb (hts (.arrayClass .int) (by decide +kernel)) rfl hK hP hD hS hA (a0 := (196, .inl (fun _ => 0))) 0 rfl (fun _ => rfl) (by decide +kernel) (by decide +kernel) (Nat.le_of_ble_eq_true rfl) (Nat.le_of_ble_eq_true rfl) (Nat.le_of_ble_eq_true rfl) dn_X1_init_44 (fun q2 H hP hD hS => ?_)
  have hP : va_P D vwCl [(h0, .inr (1, [.null, .null, .null, .ref q0, .ref q1, .null, .null])), (q0, .inr (6, [.long 0, .int 0, .int 0, .int 0])), (q1, .inl (cy 0, 4, .inl (upd (upd (upd (upd (fun _ => 0) 0 1) 1 14) 2 (-1)) 3 (-14)))), (q2, .inl (cy 0, 196, .inl (fun _ => 0)))] H := hP
  have hD : va_D A [(h0, .inr (1, [.null, .null, .null, .ref q0, .ref q1, .null, .null])), (q0, .inr (6, [.long 0, .int 0, .int 0, .int 0])), (q1, .inl (cy 0, 4, .inl (upd (upd (upd (upd (fun _ => 0) 0 1) 1 14) 2 (-1)) 3 (-14)))), (q2, .inl (cy 0, 196, .inl (fun _ => 0)))] := hD
  refine W.widen (k := 3) (n := 204) (Nat.le_of_ble_eq_true rfl) (Nat.le_of_ble_eq_true rfl) ?_
  refine va_putF (D := D) (ci := 1) (v := .ref q2) (ty := .array .int) (C := RX1) (T := TX1) (N := 7) hx hb hts inX1 tyX1 tyX1_ok nmX1 hown hK hP hD hS 0 rfl rfl 5 (by decide) (hts (.fieldLink RX1 22 "BoardSums$Maker" "downhill" "[I") (by decide +kernel)) (fun _ h9 => h9) rfl hin rfl (by decide +kernel) rfl rfl (by simp) dn_X1_init_46 (fun H locs hP hD hS => ?_)
  have hP : va_P D vwCl [(h0, .inr (1, [.null, .null, .null, .ref q0, .ref q1, .ref q2, .null])), (q0, .inr (6, [.long 0, .int 0, .int 0, .int 0])), (q1, .inl (cy 0, 4, .inl (upd (upd (upd (upd (fun _ => 0) 0 1) 1 14) 2 (-1)) 3 (-14)))), (q2, .inl (cy 0, 196, .inl (fun _ => 0)))] H := hP
  have hD : va_D A [(h0, .inr (1, [.null, .null, .null, .ref q0, .ref q1, .ref q2, .null])), (q0, .inr (6, [.long 0, .int 0, .int 0, .int 0])), (q1, .inl (cy 0, 4, .inl (upd (upd (upd (upd (fun _ => 0) 0 1) 1 14) 2 (-1)) 3 (-14)))), (q2, .inl (cy 0, 196, .inl (fun _ => 0)))] := hD
  refine lv_aload_n hx hb dn_X1_init_49 rfl (lv_at hl 0 rfl) ?_
  refine lv_sipush hx hb dn_X1_init_50 (v := 196) rfl ?_
  refine cn_newa (atype := .boolean) (ty := .boolean) hx hb (hts (.arrayClass .boolean) (by decide +kernel)) rfl hK hP hD hS hA (a0 := (196, .inl (fun _ => 0))) 2 rfl (fun _ => rfl) (by decide +kernel) (by decide +kernel) (Nat.le_of_ble_eq_true rfl) (Nat.le_of_ble_eq_true rfl) (Nat.le_of_ble_eq_true rfl) dn_X1_init_53 (fun q3 H hP hD hS => ?_)
  have hP : va_P D vwCl [(h0, .inr (1, [.null, .null, .null, .ref q0, .ref q1, .ref q2, .null])), (q0, .inr (6, [.long 0, .int 0, .int 0, .int 0])), (q1, .inl (cy 0, 4, .inl (upd (upd (upd (upd (fun _ => 0) 0 1) 1 14) 2 (-1)) 3 (-14)))), (q2, .inl (cy 0, 196, .inl (fun _ => 0))), (q3, .inl (cy 2, 196, .inl (fun _ => 0)))] H := hP
  have hD : va_D A [(h0, .inr (1, [.null, .null, .null, .ref q0, .ref q1, .ref q2, .null])), (q0, .inr (6, [.long 0, .int 0, .int 0, .int 0])), (q1, .inl (cy 0, 4, .inl (upd (upd (upd (upd (fun _ => 0) 0 1) 1 14) 2 (-1)) 3 (-14)))), (q2, .inl (cy 0, 196, .inl (fun _ => 0))), (q3, .inl (cy 2, 196, .inl (fun _ => 0)))] := hD
  refine W.widen (k := 4) (n := 400) (Nat.le_of_ble_eq_true rfl) (Nat.le_of_ble_eq_true rfl) ?_
  refine va_putF (D := D) (ci := 1) (v := .ref q3) (ty := .array .boolean) (C := RX1) (T := TX1) (N := 7) hx hb hts inX1 tyX1 tyX1_ok nmX1 hown hK hP hD hS 0 rfl rfl 6 (by decide) (hts (.fieldLink RX1 25 "BoardSums$Maker" "isZoned" "[Z") (by decide +kernel)) (fun _ h9 => h9) rfl hin rfl (by decide +kernel) rfl rfl (by simp) dn_X1_init_55 (fun H locs hP hD hS => ?_)
  have hP : va_P D vwCl [(h0, .inr (1, [.null, .null, .null, .ref q0, .ref q1, .ref q2, .ref q3])), (q0, .inr (6, [.long 0, .int 0, .int 0, .int 0])), (q1, .inl (cy 0, 4, .inl (upd (upd (upd (upd (fun _ => 0) 0 1) 1 14) 2 (-1)) 3 (-14)))), (q2, .inl (cy 0, 196, .inl (fun _ => 0))), (q3, .inl (cy 2, 196, .inl (fun _ => 0)))] H := hP
  have hD : va_D A [(h0, .inr (1, [.null, .null, .null, .ref q0, .ref q1, .ref q2, .ref q3])), (q0, .inr (6, [.long 0, .int 0, .int 0, .int 0])), (q1, .inl (cy 0, 4, .inl (upd (upd (upd (upd (fun _ => 0) 0 1) 1 14) 2 (-1)) 3 (-14)))), (q2, .inl (cy 0, 196, .inl (fun _ => 0))), (q3, .inl (cy 2, 196, .inl (fun _ => 0)))] := hD
  refine lv_aload_n hx hb dn_X1_init_58 rfl (lv_at hl 0 rfl) ?_
  refine lv_aload_n hx hb dn_X1_init_59 rfl (lv_at hl 1 rfl) ?_
  refine va_putF (D := D) (ci := 1) (v := .ref a1) (ty := .object "BoardSums$Grid") (C := RX1) (T := TX1) (N := 7) hx hb hts inX1 tyX1 tyX1_ok nmX1 hown hK hP hD hS 0 rfl rfl 0 (by decide) (hts (.fieldLink RX1 29 "BoardSums$Maker" "grid" "LBoardSums$Grid;") (by decide +kernel)) (fun _ h9 => h9) rfl hin rfl (by decide +kernel) rfl rfl (by simp) dn_X1_init_60 (fun H locs hP hD hS => ?_)
  have hP : va_P D vwCl [(h0, .inr (1, [.ref a1, .null, .null, .ref q0, .ref q1, .ref q2, .ref q3])), (q0, .inr (6, [.long 0, .int 0, .int 0, .int 0])), (q1, .inl (cy 0, 4, .inl (upd (upd (upd (upd (fun _ => 0) 0 1) 1 14) 2 (-1)) 3 (-14)))), (q2, .inl (cy 0, 196, .inl (fun _ => 0))), (q3, .inl (cy 2, 196, .inl (fun _ => 0)))] H := hP
  have hD : va_D A [(h0, .inr (1, [.ref a1, .null, .null, .ref q0, .ref q1, .ref q2, .ref q3])), (q0, .inr (6, [.long 0, .int 0, .int 0, .int 0])), (q1, .inl (cy 0, 4, .inl (upd (upd (upd (upd (fun _ => 0) 0 1) 1 14) 2 (-1)) 3 (-14)))), (q2, .inl (cy 0, 196, .inl (fun _ => 0))), (q3, .inl (cy 2, 196, .inl (fun _ => 0)))] := hD
  refine lv_aload_n hx hb dn_X1_init_63 rfl (lv_at hl 0 rfl) ?_
  refine lv_aload_n hx hb dn_X1_init_64 rfl (lv_at hl 2 rfl) ?_
  refine va_putF (D := D) (ci := 1) (v := .ref a2) (ty := .object "BoardSums$Sheets") (C := RX1) (T := TX1) (N := 7) hx hb hts inX1 tyX1 tyX1_ok nmX1 hown hK hP hD hS 0 rfl rfl 1 (by decide) (hts (.fieldLink RX1 33 "BoardSums$Maker" "sheets" "LBoardSums$Sheets;") (by decide +kernel)) (fun _ h9 => h9) rfl hin rfl (by decide +kernel) rfl rfl (by simp) dn_X1_init_65 (fun H locs hP hD hS => ?_)
  have hP : va_P D vwCl [(h0, .inr (1, [.ref a1, .ref a2, .null, .ref q0, .ref q1, .ref q2, .ref q3])), (q0, .inr (6, [.long 0, .int 0, .int 0, .int 0])), (q1, .inl (cy 0, 4, .inl (upd (upd (upd (upd (fun _ => 0) 0 1) 1 14) 2 (-1)) 3 (-14)))), (q2, .inl (cy 0, 196, .inl (fun _ => 0))), (q3, .inl (cy 2, 196, .inl (fun _ => 0)))] H := hP
  have hD : va_D A [(h0, .inr (1, [.ref a1, .ref a2, .null, .ref q0, .ref q1, .ref q2, .ref q3])), (q0, .inr (6, [.long 0, .int 0, .int 0, .int 0])), (q1, .inl (cy 0, 4, .inl (upd (upd (upd (upd (fun _ => 0) 0 1) 1 14) 2 (-1)) 3 (-14)))), (q2, .inl (cy 0, 196, .inl (fun _ => 0))), (q3, .inl (cy 2, 196, .inl (fun _ => 0)))] := hD
  refine lv_aload_n hx hb dn_X1_init_68 rfl (lv_at hl 0 rfl) ?_
  refine lv_aload_n hx hb dn_X1_init_69 rfl (lv_at hl 3 rfl) ?_
  refine va_putF (D := D) (ci := 1) (v := .ref a3) (ty := .array (.array .int)) (C := RX1) (T := TX1) (N := 7) hx hb hts inX1 tyX1 tyX1_ok nmX1 hown hK hP hD hS 0 rfl rfl 2 (by decide) (hts (.fieldLink RX1 37 "BoardSums$Maker" "values" "[[I") (by decide +kernel)) (fun _ h9 => h9) rfl hin rfl (by decide +kernel) rfl rfl (by simp) dn_X1_init_70 (fun H locs hP hD hS => ?_)
  have hP : va_P D vwCl [(h0, .inr (1, [.ref a1, .ref a2, .ref a3, .ref q0, .ref q1, .ref q2, .ref q3])), (q0, .inr (6, [.long 0, .int 0, .int 0, .int 0])), (q1, .inl (cy 0, 4, .inl (upd (upd (upd (upd (fun _ => 0) 0 1) 1 14) 2 (-1)) 3 (-14)))), (q2, .inl (cy 0, 196, .inl (fun _ => 0))), (q3, .inl (cy 2, 196, .inl (fun _ => 0)))] H := hP
  have hD : va_D A [(h0, .inr (1, [.ref a1, .ref a2, .ref a3, .ref q0, .ref q1, .ref q2, .ref q3])), (q0, .inr (6, [.long 0, .int 0, .int 0, .int 0])), (q1, .inl (cy 0, 4, .inl (upd (upd (upd (upd (fun _ => 0) 0 1) 1 14) 2 (-1)) 3 (-14)))), (q2, .inl (cy 0, 196, .inl (fun _ => 0))), (q3, .inl (cy 2, 196, .inl (fun _ => 0)))] := hD
  have hP := cn_fixI (g := (fun j => Int32.ofInt (k_V 36 j))) hP (q0 := 2) rfl (fun j hj => by rcases (show j = 0 ∨ j = 1 ∨ j = 2 ∨ j = 3 by omega) with rfl | rfl | rfl | rfl <;> rfl)
  have hD := va_D.set (p := 2) (a := q1) (e := .inl (cy 0, 4, .inl (fun j => Int32.ofInt (k_V 36 j)))) hD rfl
  have hP : va_P D vwCl [(h0, .inr (1, [.ref a1, .ref a2, .ref a3, .ref q0, .ref q1, .ref q2, .ref q3])), (q0, .inr (6, [.long 0, .int 0, .int 0, .int 0])), (q1, .inl (cy 0, 4, .inl (fun j => Int32.ofInt (k_V 36 j)))), (q2, .inl (cy 0, 196, .inl (fun _ => 0))), (q3, .inl (cy 2, 196, .inl (fun _ => 0)))] H := hP
  have hD : va_D A [(h0, .inr (1, [.ref a1, .ref a2, .ref a3, .ref q0, .ref q1, .ref q2, .ref q3])), (q0, .inr (6, [.long 0, .int 0, .int 0, .int 0])), (q1, .inl (cy 0, 4, .inl (fun j => Int32.ofInt (k_V 36 j)))), (q2, .inl (cy 0, 196, .inl (fun _ => 0))), (q3, .inl (cy 2, 196, .inl (fun _ => 0)))] := hD
  have hP9 := hP.sub (ws' := w_X1_init cy h0 a1 a2 a3 (fun i => [q0, q1, q2, q3].getD i 0)) [0, 1, 2, 3, 4] rfl
  have hD9 := hD.sub (ws' := w_X1_init cy h0 a1 a2 a3 (fun i => [q0, q1, q2, q3].getD i 0)) [0, 1, 2, 3, 4] (by decide) rfl
  exact W.vret hx hb hr (fun t ht hW => ⟨⟨fun i => [q0, q1, q2, q3].getD i 0, rfl, trivial, by rw [ht]; exact hP9, hD9⟩, hS.F ht⟩) hS.2.2 dn_X1_init_73

