/-! constructors -/
theorem zc_aoa {u U : State} (hvm : u.vm.Alike U.vm) (h : va_AOA .int u) : va_AOA .int U := by
  have h2 : (Cond.arrayOver (.array .int)).before #[] (u.setVm U.vm) = true := by
    rw [Cond.arrayOver_setVmC hvm]
    exact h
  first
    | exact va_tabs rfl (rfl : (u.setVm U.vm).vm = U.vm) h2
    | exact h2
theorem zc_warm {s U : State} (hW : s.WarmedH U.vm) (h : q_Zc s) : q_Zc U := by
  refine ⟨fun q hq => va_Nw.warmM hW (h.1 q hq), va_AO.moved hW.alike h.2.1, ?_⟩
  exact zc_aoa hW.alike h.2.2
theorem zc_same {s U : State} (hv : U.vm = s.vm) (h : q_Zc s) : q_Zc U := by
  refine ⟨fun q hq => va_Nw.same rfl hv.symm (h.1 q hq), ?_, ?_⟩
  · exact va_AO.moved (by rw [hv]; exact Vm.Alike.refl s.vm) h.2.1
  · exact zc_aoa (by rw [hv]; exact Vm.Alike.refl s.vm) h.2.2
theorem zc_ok (A : Nat → Prop) : q_Zok A q_Zc := ⟨fun s U h hW _ _ => zc_warm hW h, fun s U h hv _ => zc_same hv h⟩
theorem cn_code : Cond.code objectInit ⟨#[0xb1]⟩ 1 none ∈ q_tb := by decide +kernel
def k_0 : QM := fun _ _ => 0
def k_G : QM := q_up (q_up (q_up k_0 1 0 8) 1 1 8) 1 2 (q_tm 8 8)
def k_S : QM := q_fill (q_rows k_0 4 4 196 (-2000000000)) 12 0 3 0
def k_P (P : Int) : QM := q_fill (q_up k_0 P 2 0) (P + 2) 0 26 (-1)
def k_V : QM := fun a j => if a = 20 ∧ j = 5 then 39 else if a = 36 then (if j = 0 then 1 else if j = 1 then 14 else if j = 2 then -1 else if j = 3 then -14 else 0) else 0
def k_W : QM := q_rows (q_fill k_V 21 0 10 0) 24 10 196 (-2000000000)
def k_N : QM := fun a j => if a = 85 then (if j = 2 then 8 else if j = 3 then 8 else if j = 36 then -1 else 0) else if a = 104 then (if 0 ≤ j ∧ j < 26 then 0 else -1) else 0
def k_M : QM := q_fill (q_fill (q_fill k_N 86 0 576 (-2000000000)) 88 0 3 0) 94 0 90 0
/-- numbers of an array, said otherwise -/
theorem cn_fixI {D : va_G} {ws : va_W} {H : Heap} {a : Nat} {cA : ClassId} {n q0 : Nat} {f g : Nat → Int32} (hP : va_P D vwCl ws H) (ha : ws[q0]? = some (a, .inl (cA, n, .inl f))) (hfg : ∀ j : Nat, j < n → f j = g j) : va_P D vwCl (ws.set q0 (a, .inl (cA, n, .inl g))) H := by
  intro k q hk
  by_cases c : q0 = k
  · subst c
    rw [List.getElem?_set_self (List.getElem?_eq_some_iff.mp ha).1] at hk
    cases hk
    have := hP q0 _ ha
    show H[a]? = some (vp_cell cA (n, .inl g))
    have h2 : H[a]? = some (vp_cell cA (n, .inl f)) := this
    rw [h2]
    show some (arrV cA n (fun j => .int (f j))) = some (arrV cA n (fun j => .int (g j)))
    congr 1
    unfold arrV
    congr 1
    refine Array.ext (by simp) (fun i h1 h2 => ?_)
    simp only [Array.getElem_ofFn]
    rw [hfg i (by simpa using h1)]
  · rw [List.getElem?_set_ne c] at hk
    exact hP k q hk
def w_X6_init (cy : Nat → ClassId) (h0 : Nat) (r : Nat → Nat) : va_W := [(h0, .inr (6, [.long 0, .int 0, .int 0, .int 0]))]
theorem dn_X6_init_0 : decode cX6_init 0 = .ok (.aload_n 0, 1) := by decide +kernel
theorem dn_X6_init_1 : decode cX6_init 1 = .ok (.invokespecial 3, 3) := by decide +kernel
theorem dn_X6_init_4 : decode cX6_init 4 = .ok (.return_, 1) := by decide +kernel
def rn_X6_init : Room := { frames := 1, cells := 0, slots := 0, locals := 12 }
set_option maxHeartbeats 1000000 in
set_option maxRecDepth 100000 in
theorem Cn_X6_init {l : Launch} {D : va_G} {cy : Nat → ClassId} (h0 sz : Nat) : Met l yX6_init (.code yX6_init cX6_init 1 none :: q_tb) rn_X6_init (va_Pc [.ref h0] (fun U => U.heap.size = sz ∧ va_P D vwCl [(h0, .inr (6, [.long 0, .int 0, .int 0, .int 0]))] U.heap ∧ va_K D vwCl (q_tys cy) U ∧ va_D (fun _ => True) [(h0, .inr (6, [.long 0, .int 0, .int 0, .int 0]))] ∧ q_Zc U)) (va_Qv (fun _ : Nat → Nat => True) (fun r t => va_P D vwCl (w_X6_init cy h0 r) t.heap ∧ va_D (va_A [(h0, .inr (6, [.long 0, .int 0, .int 0, .int 0]))] sz) (w_X6_init cy h0 r)) (va_A [(h0, .inr (6, [.long 0, .int 0, .int 0, .int 0]))] sz)) 0 0 (va_A [(h0, .inr (6, [.long 0, .int 0, .int 0, .int 0]))] sz) := by
  refine Met.ofW (cc := cX6_init) (maxL := 1) (ret := none) (by decide) rfl ?_
  intro p e s m args below meth c s₁ B hml hv
  obtain ⟨rfl, hsz, hP, hK, hD0, hz⟩ := hv
  have hx := B.exec
  have hb := B.bytes
  have hr := B.returns
  have hts0 := atoms_spec (ws := .code yX6_init cX6_init 1 none :: q_tb) B.pre
  have hts : ∀ w ∈ q_tb, w.before _ s = true := fun w h => hts0 w (List.mem_cons_of_mem _ h)
  have hown : s.vm.findClass RX6 = some m.cls := findClass_of_methodNamed B.named
  have hlocks := B.notSynchronized
  have hin : meth.name = "<init>" := (name_of_methodNamed B.named B.method).1
  subst hsz
  have hD := hD0.self (sz := s.heap.size)
  generalize hAe : va_A [(h0, .inr (6, [.long 0, .int 0, .int 0, .int 0]))] s.heap.size = A at hD ⊢
  have hA : ∀ q : Nat, s.heap.size ≤ q → A q := fun q h => by rw [← hAe]; exact Or.inr h
  have hS : va_S A s.heap s.heap [] := va_S.rf
  have hl := lv_entry ([.ref h0]) (n := 1) (Nat.le_of_ble_eq_true rfl)
  rw [lg_entry_eq]
  generalize (lg_sl ([.ref h0]) ++ List.replicate (1 - (lg_sl ([.ref h0])).length) Slot.unset).toArray = ls at hl ⊢
  have hl : lv_has ls 1 [(0, .ref h0)] := hl
  have hP : va_P D vwCl [(h0, .inr (6, [.long 0, .int 0, .int 0, .int 0]))] s.heap := hP
  refine lv_aload_n hx hb dn_X6_init_0 rfl (lv_at hl 0 rfl) ?_
  refine W.objInit hx hb hown (hts (.methodLink RX6 3 objectInit) (by decide +kernel)) (hts (.instanceMethod objectInit) (by decide +kernel)) (hts _ cn_code) rfl (by rw [hml]; exact hl.1) rfl dn_X6_init_1 (Nat.le_of_ble_eq_true rfl) (Nat.le_of_ble_eq_true rfl) ?_
  refine W.eq (g2 := F0 m 4 ls []) rfl ?_
  have hP : va_P D vwCl [(h0, .inr (6, [.long 0, .int 0, .int 0, .int 0]))] s.heap := hP
  have hD : va_D A [(h0, .inr (6, [.long 0, .int 0, .int 0, .int 0]))] := hD
  have hP9 := hP.sub (ws' := w_X6_init cy h0 (fun i => [].getD i 0)) [0] rfl
  have hD9 := hD.sub (ws' := w_X6_init cy h0 (fun i => [].getD i 0)) [0] (by decide) rfl
  exact W.vret hx hb hr (fun t ht hW => ⟨⟨fun i => [].getD i 0, rfl, trivial, by rw [ht]; exact hP9, hD9⟩, hS.F ht⟩) hS.2.2 dn_X6_init_4
def w_X4_init (cy : Nat → ClassId) (h0 : Nat) (r : Nat → Nat) : va_W := [(h0, .inr (4, [.ref (r 0), .int 0, .int 0, .int 0, .int 0])), (r 0, .inl (cy 0, 3, .inl (fun _ => 0)))]
theorem dn_X4_init_0 : decode cX4_init 0 = .ok (.aload_n 0, 1) := by decide +kernel
theorem dn_X4_init_1 : decode cX4_init 1 = .ok (.invokespecial 3, 3) := by decide +kernel
theorem dn_X4_init_4 : decode cX4_init 4 = .ok (.aload_n 0, 1) := by decide +kernel
theorem dn_X4_init_5 : decode cX4_init 5 = .ok (.iconst 3, 1) := by decide +kernel
theorem dn_X4_init_6 : decode cX4_init 6 = .ok (.newarray .int, 2) := by decide +kernel
theorem dn_X4_init_8 : decode cX4_init 8 = .ok (.putfield 9, 3) := by decide +kernel
theorem dn_X4_init_11 : decode cX4_init 11 = .ok (.return_, 1) := by decide +kernel
def rn_X4_init : Room := { frames := 1, cells := 1, slots := 3, locals := 12 }
set_option maxHeartbeats 1000000 in
set_option maxRecDepth 100000 in
theorem Cn_X4_init {l : Launch} {D : va_G} {cy : Nat → ClassId} (h0 sz : Nat) : Met l yX4_init (.code yX4_init cX4_init 1 none :: q_tb) rn_X4_init (va_Pc [.ref h0] (fun U => U.heap.size = sz ∧ va_P D vwCl [(h0, .inr (4, [.null, .int 0, .int 0, .int 0, .int 0]))] U.heap ∧ va_K D vwCl (q_tys cy) U ∧ va_D (fun _ => True) [(h0, .inr (4, [.null, .int 0, .int 0, .int 0, .int 0]))] ∧ q_Zc U)) (va_Qv (fun _ : Nat → Nat => True) (fun r t => va_P D vwCl (w_X4_init cy h0 r) t.heap ∧ va_D (va_A [(h0, .inr (4, [.null, .int 0, .int 0, .int 0, .int 0]))] sz) (w_X4_init cy h0 r)) (va_A [(h0, .inr (4, [.null, .int 0, .int 0, .int 0, .int 0]))] sz)) 1 3 (va_A [(h0, .inr (4, [.null, .int 0, .int 0, .int 0, .int 0]))] sz) := by
  refine Met.ofW (cc := cX4_init) (maxL := 1) (ret := none) (by decide) rfl ?_
  intro p e s m args below meth c s₁ B hml hv
  obtain ⟨rfl, hsz, hP, hK, hD0, hz⟩ := hv
  have hx := B.exec
  have hb := B.bytes
  have hr := B.returns
  have hts0 := atoms_spec (ws := .code yX4_init cX4_init 1 none :: q_tb) B.pre
  have hts : ∀ w ∈ q_tb, w.before _ s = true := fun w h => hts0 w (List.mem_cons_of_mem _ h)
  have hown : s.vm.findClass RX4 = some m.cls := findClass_of_methodNamed B.named
  have hlocks := B.notSynchronized
  have hin : meth.name = "<init>" := (name_of_methodNamed B.named B.method).1
  subst hsz
  have hD := hD0.self (sz := s.heap.size)
  generalize hAe : va_A [(h0, .inr (4, [.null, .int 0, .int 0, .int 0, .int 0]))] s.heap.size = A at hD ⊢
  have hA : ∀ q : Nat, s.heap.size ≤ q → A q := fun q h => by rw [← hAe]; exact Or.inr h
  have hS : va_S A s.heap s.heap [] := va_S.rf
  have hl := lv_entry ([.ref h0]) (n := 1) (Nat.le_of_ble_eq_true rfl)
  rw [lg_entry_eq]
  generalize (lg_sl ([.ref h0]) ++ List.replicate (1 - (lg_sl ([.ref h0])).length) Slot.unset).toArray = ls at hl ⊢
  have hl : lv_has ls 1 [(0, .ref h0)] := hl
  have hP : va_P D vwCl [(h0, .inr (4, [.null, .int 0, .int 0, .int 0, .int 0]))] s.heap := hP
  refine lv_aload_n hx hb dn_X4_init_0 rfl (lv_at hl 0 rfl) ?_
  refine W.objInit hx hb hown (hts (.methodLink RX4 3 objectInit) (by decide +kernel)) (hts (.instanceMethod objectInit) (by decide +kernel)) (hts _ cn_code) rfl (by rw [hml]; exact hl.1) rfl dn_X4_init_1 (Nat.le_of_ble_eq_true rfl) (Nat.le_of_ble_eq_true rfl) ?_
  refine W.eq (g2 := F0 m 4 ls []) rfl ?_
  refine lv_aload_n hx hb dn_X4_init_4 rfl (lv_at hl 0 rfl) ?_
  refine lv_iconst hx hb dn_X4_init_5 (v := 3) rfl ?_
  refine cn_newa (atype := .int) (ty := .int) hx hb (hts (.arrayClass .int) (by decide +kernel)) rfl hK hP hD hS hA (a0 := (3, .inl (fun _ => 0))) 0 rfl (fun _ => rfl) (by decide +kernel) (by decide +kernel) (Nat.le_of_ble_eq_true rfl) (Nat.le_of_ble_eq_true rfl) (Nat.le_of_ble_eq_true rfl) dn_X4_init_6 (fun q0 H hP hD hS => ?_)
  have hP : va_P D vwCl [(h0, .inr (4, [.null, .int 0, .int 0, .int 0, .int 0])), (q0, .inl (cy 0, 3, .inl (fun _ => 0)))] H := hP
  have hD : va_D A [(h0, .inr (4, [.null, .int 0, .int 0, .int 0, .int 0])), (q0, .inl (cy 0, 3, .inl (fun _ => 0)))] := hD
  refine W.widen (k := 1) (n := 3) (Nat.le_of_ble_eq_true rfl) (Nat.le_of_ble_eq_true rfl) ?_
  refine va_putF (D := D) (ci := 4) (v := .ref q0) (ty := .array .int) (C := RX4) (T := TX4) (N := 5) hx hb hts inX4 tyX4 tyX4_ok nmX4 hown hK hP hD hS 0 rfl rfl 0 (by decide) (hts (.fieldLink RX4 9 "BoardSums$Recipe" "named" "[I") (by decide +kernel)) (fun _ h9 => h9) rfl hin rfl (by decide +kernel) rfl rfl (by simp) dn_X4_init_8 (fun H locs hP hD hS => ?_)
  have hP : va_P D vwCl [(h0, .inr (4, [.ref q0, .int 0, .int 0, .int 0, .int 0])), (q0, .inl (cy 0, 3, .inl (fun _ => 0)))] H := hP
  have hD : va_D A [(h0, .inr (4, [.ref q0, .int 0, .int 0, .int 0, .int 0])), (q0, .inl (cy 0, 3, .inl (fun _ => 0)))] := hD
  have hP : va_P D vwCl [(h0, .inr (4, [.ref q0, .int 0, .int 0, .int 0, .int 0])), (q0, .inl (cy 0, 3, .inl (fun _ => 0)))] H := hP
  have hD : va_D A [(h0, .inr (4, [.ref q0, .int 0, .int 0, .int 0, .int 0])), (q0, .inl (cy 0, 3, .inl (fun _ => 0)))] := hD
  have hP9 := hP.sub (ws' := w_X4_init cy h0 (fun i => [q0].getD i 0)) [0, 1] rfl
  have hD9 := hD.sub (ws' := w_X4_init cy h0 (fun i => [q0].getD i 0)) [0, 1] (by decide) rfl
  exact W.vret hx hb hr (fun t ht hW => ⟨⟨fun i => [q0].getD i 0, rfl, trivial, by rw [ht]; exact hP9, hD9⟩, hS.F ht⟩) hS.2.2 dn_X4_init_11
def w_X7_init (cy : Nat → ClassId) (h0 : Nat) (r : Nat → Nat) : va_W := [(h0, .inr (7, [.ref (r 0), .int 0])), (r 0, .inl (cy 3, 300, .inl (fun _ => 0)))]
theorem dn_X7_init_0 : decode cX7_init 0 = .ok (.aload_n 0, 1) := by decide +kernel
theorem dn_X7_init_1 : decode cX7_init 1 = .ok (.invokespecial 3, 3) := by decide +kernel
theorem dn_X7_init_4 : decode cX7_init 4 = .ok (.aload_n 0, 1) := by decide +kernel
theorem dn_X7_init_5 : decode cX7_init 5 = .ok (.sipush 300, 3) := by decide +kernel
theorem dn_X7_init_8 : decode cX7_init 8 = .ok (.newarray .char, 2) := by decide +kernel
theorem dn_X7_init_10 : decode cX7_init 10 = .ok (.putfield 9, 3) := by decide +kernel
theorem dn_X7_init_13 : decode cX7_init 13 = .ok (.return_, 1) := by decide +kernel
def rn_X7_init : Room := { frames := 1, cells := 1, slots := 300, locals := 12 }
set_option maxHeartbeats 1000000 in
set_option maxRecDepth 100000 in
theorem Cn_X7_init {l : Launch} {D : va_G} {cy : Nat → ClassId} (h0 sz : Nat) : Met l yX7_init (.code yX7_init cX7_init 1 none :: q_tb) rn_X7_init (va_Pc [.ref h0] (fun U => U.heap.size = sz ∧ va_P D vwCl [(h0, .inr (7, [.null, .int 0]))] U.heap ∧ va_K D vwCl (q_tys cy) U ∧ va_D (fun _ => True) [(h0, .inr (7, [.null, .int 0]))] ∧ q_Zc U)) (va_Qv (fun _ : Nat → Nat => True) (fun r t => va_P D vwCl (w_X7_init cy h0 r) t.heap ∧ va_D (va_A [(h0, .inr (7, [.null, .int 0]))] sz) (w_X7_init cy h0 r)) (va_A [(h0, .inr (7, [.null, .int 0]))] sz)) 1 300 (va_A [(h0, .inr (7, [.null, .int 0]))] sz) := by
  refine Met.ofW (cc := cX7_init) (maxL := 1) (ret := none) (by decide) rfl ?_
  intro p e s m args below meth c s₁ B hml hv
  obtain ⟨rfl, hsz, hP, hK, hD0, hz⟩ := hv
  have hx := B.exec
  have hb := B.bytes
  have hr := B.returns
  have hts0 := atoms_spec (ws := .code yX7_init cX7_init 1 none :: q_tb) B.pre
  have hts : ∀ w ∈ q_tb, w.before _ s = true := fun w h => hts0 w (List.mem_cons_of_mem _ h)
  have hown : s.vm.findClass RX7 = some m.cls := findClass_of_methodNamed B.named
  have hlocks := B.notSynchronized
  have hin : meth.name = "<init>" := (name_of_methodNamed B.named B.method).1
  subst hsz
  have hD := hD0.self (sz := s.heap.size)
  generalize hAe : va_A [(h0, .inr (7, [.null, .int 0]))] s.heap.size = A at hD ⊢
  have hA : ∀ q : Nat, s.heap.size ≤ q → A q := fun q h => by rw [← hAe]; exact Or.inr h
  have hS : va_S A s.heap s.heap [] := va_S.rf
  have hl := lv_entry ([.ref h0]) (n := 1) (Nat.le_of_ble_eq_true rfl)
  rw [lg_entry_eq]
  generalize (lg_sl ([.ref h0]) ++ List.replicate (1 - (lg_sl ([.ref h0])).length) Slot.unset).toArray = ls at hl ⊢
  have hl : lv_has ls 1 [(0, .ref h0)] := hl
  have hP : va_P D vwCl [(h0, .inr (7, [.null, .int 0]))] s.heap := hP
  refine lv_aload_n hx hb dn_X7_init_0 rfl (lv_at hl 0 rfl) ?_
  refine W.objInit hx hb hown (hts (.methodLink RX7 3 objectInit) (by decide +kernel)) (hts (.instanceMethod objectInit) (by decide +kernel)) (hts _ cn_code) rfl (by rw [hml]; exact hl.1) rfl dn_X7_init_1 (Nat.le_of_ble_eq_true rfl) (Nat.le_of_ble_eq_true rfl) ?_
  refine W.eq (g2 := F0 m 4 ls []) rfl ?_
  refine lv_aload_n hx hb dn_X7_init_4 rfl (lv_at hl 0 rfl) ?_
  refine lv_sipush hx hb dn_X7_init_5 (v := 300) rfl ?_
  refine cn_newa (atype := .char) (ty := .char) hx hb (hts (.arrayClass .char) (by decide +kernel)) rfl hK hP hD hS hA (a0 := (300, .inl (fun _ => 0))) 3 rfl (fun _ => rfl) (by decide +kernel) (by decide +kernel) (Nat.le_of_ble_eq_true rfl) (Nat.le_of_ble_eq_true rfl) (Nat.le_of_ble_eq_true rfl) dn_X7_init_8 (fun q0 H hP hD hS => ?_)
  have hP : va_P D vwCl [(h0, .inr (7, [.null, .int 0])), (q0, .inl (cy 3, 300, .inl (fun _ => 0)))] H := hP
  have hD : va_D A [(h0, .inr (7, [.null, .int 0])), (q0, .inl (cy 3, 300, .inl (fun _ => 0)))] := hD
  refine W.widen (k := 1) (n := 300) (Nat.le_of_ble_eq_true rfl) (Nat.le_of_ble_eq_true rfl) ?_
  refine va_putF (D := D) (ci := 7) (v := .ref q0) (ty := .array .char) (C := RX7) (T := TX7) (N := 2) hx hb hts inX7 tyX7 tyX7_ok nmX7 hown hK hP hD hS 0 rfl rfl 0 (by decide) (hts (.fieldLink RX7 9 "BoardSums$Tape" "bytes" "[C") (by decide +kernel)) (fun _ h9 => h9) rfl hin rfl (by decide +kernel) rfl rfl (by simp) dn_X7_init_10 (fun H locs hP hD hS => ?_)
  have hP : va_P D vwCl [(h0, .inr (7, [.ref q0, .int 0])), (q0, .inl (cy 3, 300, .inl (fun _ => 0)))] H := hP
  have hD : va_D A [(h0, .inr (7, [.ref q0, .int 0])), (q0, .inl (cy 3, 300, .inl (fun _ => 0)))] := hD
  have hP : va_P D vwCl [(h0, .inr (7, [.ref q0, .int 0])), (q0, .inl (cy 3, 300, .inl (fun _ => 0)))] H := hP
  have hD : va_D A [(h0, .inr (7, [.ref q0, .int 0])), (q0, .inl (cy 3, 300, .inl (fun _ => 0)))] := hD
  have hP9 := hP.sub (ws' := w_X7_init cy h0 (fun i => [q0].getD i 0)) [0, 1] rfl
  have hD9 := hD.sub (ws' := w_X7_init cy h0 (fun i => [q0].getD i 0)) [0, 1] (by decide) rfl
  exact W.vret hx hb hr (fun t ht hW => ⟨⟨fun i => [q0].getD i 0, rfl, trivial, by rw [ht]; exact hP9, hD9⟩, hS.F ht⟩) hS.2.2 dn_X7_init_13
def w_X8_init (cy : Nat → ClassId) (h0 a1 : Nat) (r : Nat → Nat) : va_W := [(h0, .inr (8, [.ref a1, .ref (r 0), .ref (r 1), .ref (r 2), .int 0, .int 0])), (r 0, .inl (cy 0, 301, .inl (fun _ => 0))), (r 1, .inl (cy 0, 301, .inl (fun _ => 0))), (r 2, .inl (cy 0, 301, .inl (fun _ => 0)))]
theorem dn_X8_init_0 : decode cX8_init 0 = .ok (.aload_n 0, 1) := by decide +kernel
theorem dn_X8_init_1 : decode cX8_init 1 = .ok (.invokespecial 3, 3) := by decide +kernel
theorem dn_X8_init_4 : decode cX8_init 4 = .ok (.aload_n 0, 1) := by decide +kernel
theorem dn_X8_init_5 : decode cX8_init 5 = .ok (.sipush 301, 3) := by decide +kernel
theorem dn_X8_init_8 : decode cX8_init 8 = .ok (.newarray .int, 2) := by decide +kernel
theorem dn_X8_init_10 : decode cX8_init 10 = .ok (.putfield 9, 3) := by decide +kernel
theorem dn_X8_init_13 : decode cX8_init 13 = .ok (.aload_n 0, 1) := by decide +kernel
theorem dn_X8_init_14 : decode cX8_init 14 = .ok (.sipush 301, 3) := by decide +kernel
theorem dn_X8_init_17 : decode cX8_init 17 = .ok (.newarray .int, 2) := by decide +kernel
theorem dn_X8_init_19 : decode cX8_init 19 = .ok (.putfield 15, 3) := by decide +kernel
theorem dn_X8_init_22 : decode cX8_init 22 = .ok (.aload_n 0, 1) := by decide +kernel
theorem dn_X8_init_23 : decode cX8_init 23 = .ok (.sipush 301, 3) := by decide +kernel
theorem dn_X8_init_26 : decode cX8_init 26 = .ok (.newarray .int, 2) := by decide +kernel
theorem dn_X8_init_28 : decode cX8_init 28 = .ok (.putfield 18, 3) := by decide +kernel
theorem dn_X8_init_31 : decode cX8_init 31 = .ok (.aload_n 0, 1) := by decide +kernel
theorem dn_X8_init_32 : decode cX8_init 32 = .ok (.aload_n 1, 1) := by decide +kernel
theorem dn_X8_init_33 : decode cX8_init 33 = .ok (.putfield 21, 3) := by decide +kernel
theorem dn_X8_init_36 : decode cX8_init 36 = .ok (.return_, 1) := by decide +kernel
def rn_X8_init : Room := { frames := 1, cells := 3, slots := 903, locals := 12 }
set_option maxHeartbeats 1000000 in
set_option maxRecDepth 100000 in
theorem Cn_X8_init {l : Launch} {D : va_G} {cy : Nat → ClassId} (h0 a1 sz : Nat) : Met l yX8_init (.code yX8_init cX8_init 2 none :: q_tb) rn_X8_init (va_Pc [.ref h0, .ref a1] (fun U => U.heap.size = sz ∧ va_P D vwCl [(h0, .inr (8, [.null, .null, .null, .null, .int 0, .int 0]))] U.heap ∧ va_K D vwCl (q_tys cy) U ∧ va_D (fun _ => True) [(h0, .inr (8, [.null, .null, .null, .null, .int 0, .int 0]))] ∧ q_Zc U)) (va_Qv (fun _ : Nat → Nat => True) (fun r t => va_P D vwCl (w_X8_init cy h0 a1 r) t.heap ∧ va_D (va_A [(h0, .inr (8, [.null, .null, .null, .null, .int 0, .int 0]))] sz) (w_X8_init cy h0 a1 r)) (va_A [(h0, .inr (8, [.null, .null, .null, .null, .int 0, .int 0]))] sz)) 3 903 (va_A [(h0, .inr (8, [.null, .null, .null, .null, .int 0, .int 0]))] sz) := by
  refine Met.ofW (cc := cX8_init) (maxL := 2) (ret := none) (by decide) rfl ?_
  intro p e s m args below meth c s₁ B hml hv
  obtain ⟨rfl, hsz, hP, hK, hD0, hz⟩ := hv
  have hx := B.exec
  have hb := B.bytes
  have hr := B.returns
  have hts0 := atoms_spec (ws := .code yX8_init cX8_init 2 none :: q_tb) B.pre
  have hts : ∀ w ∈ q_tb, w.before _ s = true := fun w h => hts0 w (List.mem_cons_of_mem _ h)
  have hown : s.vm.findClass RX8 = some m.cls := findClass_of_methodNamed B.named
  have hlocks := B.notSynchronized
  have hin : meth.name = "<init>" := (name_of_methodNamed B.named B.method).1
  subst hsz
  have hD := hD0.self (sz := s.heap.size)
  generalize hAe : va_A [(h0, .inr (8, [.null, .null, .null, .null, .int 0, .int 0]))] s.heap.size = A at hD ⊢
  have hA : ∀ q : Nat, s.heap.size ≤ q → A q := fun q h => by rw [← hAe]; exact Or.inr h
  have hS : va_S A s.heap s.heap [] := va_S.rf
  have hl := lv_entry ([.ref h0, .ref a1]) (n := 2) (Nat.le_of_ble_eq_true rfl)
  rw [lg_entry_eq]
  generalize (lg_sl ([.ref h0, .ref a1]) ++ List.replicate (2 - (lg_sl ([.ref h0, .ref a1])).length) Slot.unset).toArray = ls at hl ⊢
  have hl : lv_has ls 2 [(0, .ref h0), (1, .ref a1)] := hl
  have hP : va_P D vwCl [(h0, .inr (8, [.null, .null, .null, .null, .int 0, .int 0]))] s.heap := hP
  refine lv_aload_n hx hb dn_X8_init_0 rfl (lv_at hl 0 rfl) ?_
  refine W.objInit hx hb hown (hts (.methodLink RX8 3 objectInit) (by decide +kernel)) (hts (.instanceMethod objectInit) (by decide +kernel)) (hts _ cn_code) rfl (by rw [hml]; exact hl.1) rfl dn_X8_init_1 (Nat.le_of_ble_eq_true rfl) (Nat.le_of_ble_eq_true rfl) ?_
  refine W.eq (g2 := F0 m 4 ls []) rfl ?_
  refine lv_aload_n hx hb dn_X8_init_4 rfl (lv_at hl 0 rfl) ?_
  refine lv_sipush hx hb dn_X8_init_5 (v := 301) rfl ?_
  refine cn_newa (atype := .int) (ty := .int) hx hb (hts (.arrayClass .int) (by decide +kernel)) rfl hK hP hD hS hA (a0 := (301, .inl (fun _ => 0))) 0 rfl (fun _ => rfl) (by decide +kernel) (by decide +kernel) (Nat.le_of_ble_eq_true rfl) (Nat.le_of_ble_eq_true rfl) (Nat.le_of_ble_eq_true rfl) dn_X8_init_8 (fun q0 H hP hD hS => ?_)
  have hP : va_P D vwCl [(h0, .inr (8, [.null, .null, .null, .null, .int 0, .int 0])), (q0, .inl (cy 0, 301, .inl (fun _ => 0)))] H := hP
  have hD : va_D A [(h0, .inr (8, [.null, .null, .null, .null, .int 0, .int 0])), (q0, .inl (cy 0, 301, .inl (fun _ => 0)))] := hD
  refine W.widen (k := 1) (n := 301) (Nat.le_of_ble_eq_true rfl) (Nat.le_of_ble_eq_true rfl) ?_
  refine va_putF (D := D) (ci := 8) (v := .ref q0) (ty := .array .int) (C := RX8) (T := TX8) (N := 6) hx hb hts inX8 tyX8 tyX8_ok nmX8 hown hK hP hD hS 0 rfl rfl 1 (by decide) (hts (.fieldLink RX8 9 "BoardSums$Tokens" "kinds" "[I") (by decide +kernel)) (fun _ h9 => h9) rfl hin rfl (by decide +kernel) rfl rfl (by simp) dn_X8_init_10 (fun H locs hP hD hS => ?_)
  have hP : va_P D vwCl [(h0, .inr (8, [.null, .ref q0, .null, .null, .int 0, .int 0])), (q0, .inl (cy 0, 301, .inl (fun _ => 0)))] H := hP
  have hD : va_D A [(h0, .inr (8, [.null, .ref q0, .null, .null, .int 0, .int 0])), (q0, .inl (cy 0, 301, .inl (fun _ => 0)))] := hD
  refine lv_aload_n hx hb dn_X8_init_13 rfl (lv_at hl 0 rfl) ?_
  refine lv_sipush hx hb dn_X8_init_14 (v := 301) rfl ?_
  refine cn_newa (atype := .int) (ty := .int) hx hb (hts (.arrayClass .int) (by decide +kernel)) rfl hK hP hD hS hA (a0 := (301, .inl (fun _ => 0))) 0 rfl (fun _ => rfl) (by decide +kernel) (by decide +kernel) (Nat.le_of_ble_eq_true rfl) (Nat.le_of_ble_eq_true rfl) (Nat.le_of_ble_eq_true rfl) dn_X8_init_17 (fun q1 H hP hD hS => ?_)
  have hP : va_P D vwCl [(h0, .inr (8, [.null, .ref q0, .null, .null, .int 0, .int 0])), (q0, .inl (cy 0, 301, .inl (fun _ => 0))), (q1, .inl (cy 0, 301, .inl (fun _ => 0)))] H := hP
  have hD : va_D A [(h0, .inr (8, [.null, .ref q0, .null, .null, .int 0, .int 0])), (q0, .inl (cy 0, 301, .inl (fun _ => 0))), (q1, .inl (cy 0, 301, .inl (fun _ => 0)))] := hD
  refine W.widen (k := 2) (n := 602) (Nat.le_of_ble_eq_true rfl) (Nat.le_of_ble_eq_true rfl) ?_
  refine va_putF (D := D) (ci := 8) (v := .ref q1) (ty := .array .int) (C := RX8) (T := TX8) (N := 6) hx hb hts inX8 tyX8 tyX8_ok nmX8 hown hK hP hD hS 0 rfl rfl 2 (by decide) (hts (.fieldLink RX8 15 "BoardSums$Tokens" "codes" "[I") (by decide +kernel)) (fun _ h9 => h9) rfl hin rfl (by decide +kernel) rfl rfl (by simp) dn_X8_init_19 (fun H locs hP hD hS => ?_)
  have hP : va_P D vwCl [(h0, .inr (8, [.null, .ref q0, .ref q1, .null, .int 0, .int 0])), (q0, .inl (cy 0, 301, .inl (fun _ => 0))), (q1, .inl (cy 0, 301, .inl (fun _ => 0)))] H := hP
  have hD : va_D A [(h0, .inr (8, [.null, .ref q0, .ref q1, .null, .int 0, .int 0])), (q0, .inl (cy 0, 301, .inl (fun _ => 0))), (q1, .inl (cy 0, 301, .inl (fun _ => 0)))] := hD
  refine lv_aload_n hx hb dn_X8_init_22 rfl (lv_at hl 0 rfl) ?_
  refine lv_sipush hx hb dn_X8_init_23 (v := 301) rfl ?_
  refine cn_newa (atype := .int) (ty := .int) hx hb (hts (.arrayClass .int) (by decide +kernel)) rfl hK hP hD hS hA (a0 := (301, .inl (fun _ => 0))) 0 rfl (fun _ => rfl) (by decide +kernel) (by decide +kernel) (Nat.le_of_ble_eq_true rfl) (Nat.le_of_ble_eq_true rfl) (Nat.le_of_ble_eq_true rfl) dn_X8_init_26 (fun q2 H hP hD hS => ?_)
  have hP : va_P D vwCl [(h0, .inr (8, [.null, .ref q0, .ref q1, .null, .int 0, .int 0])), (q0, .inl (cy 0, 301, .inl (fun _ => 0))), (q1, .inl (cy 0, 301, .inl (fun _ => 0))), (q2, .inl (cy 0, 301, .inl (fun _ => 0)))] H := hP
  have hD : va_D A [(h0, .inr (8, [.null, .ref q0, .ref q1, .null, .int 0, .int 0])), (q0, .inl (cy 0, 301, .inl (fun _ => 0))), (q1, .inl (cy 0, 301, .inl (fun _ => 0))), (q2, .inl (cy 0, 301, .inl (fun _ => 0)))] := hD
  refine W.widen (k := 3) (n := 903) (Nat.le_of_ble_eq_true rfl) (Nat.le_of_ble_eq_true rfl) ?_
  refine va_putF (D := D) (ci := 8) (v := .ref q2) (ty := .array .int) (C := RX8) (T := TX8) (N := 6) hx hb hts inX8 tyX8 tyX8_ok nmX8 hown hK hP hD hS 0 rfl rfl 3 (by decide) (hts (.fieldLink RX8 18 "BoardSums$Tokens" "places" "[I") (by decide +kernel)) (fun _ h9 => h9) rfl hin rfl (by decide +kernel) rfl rfl (by simp) dn_X8_init_28 (fun H locs hP hD hS => ?_)
  have hP : va_P D vwCl [(h0, .inr (8, [.null, .ref q0, .ref q1, .ref q2, .int 0, .int 0])), (q0, .inl (cy 0, 301, .inl (fun _ => 0))), (q1, .inl (cy 0, 301, .inl (fun _ => 0))), (q2, .inl (cy 0, 301, .inl (fun _ => 0)))] H := hP
  have hD : va_D A [(h0, .inr (8, [.null, .ref q0, .ref q1, .ref q2, .int 0, .int 0])), (q0, .inl (cy 0, 301, .inl (fun _ => 0))), (q1, .inl (cy 0, 301, .inl (fun _ => 0))), (q2, .inl (cy 0, 301, .inl (fun _ => 0)))] := hD
  refine lv_aload_n hx hb dn_X8_init_31 rfl (lv_at hl 0 rfl) ?_
  refine lv_aload_n hx hb dn_X8_init_32 rfl (lv_at hl 1 rfl) ?_
  refine va_putF (D := D) (ci := 8) (v := .ref a1) (ty := .object "BoardSums$Tape") (C := RX8) (T := TX8) (N := 6) hx hb hts inX8 tyX8 tyX8_ok nmX8 hown hK hP hD hS 0 rfl rfl 0 (by decide) (hts (.fieldLink RX8 21 "BoardSums$Tokens" "tape" "LBoardSums$Tape;") (by decide +kernel)) (fun _ h9 => h9) rfl hin rfl (by decide +kernel) rfl rfl (by simp) dn_X8_init_33 (fun H locs hP hD hS => ?_)
  have hP : va_P D vwCl [(h0, .inr (8, [.ref a1, .ref q0, .ref q1, .ref q2, .int 0, .int 0])), (q0, .inl (cy 0, 301, .inl (fun _ => 0))), (q1, .inl (cy 0, 301, .inl (fun _ => 0))), (q2, .inl (cy 0, 301, .inl (fun _ => 0)))] H := hP
  have hD : va_D A [(h0, .inr (8, [.ref a1, .ref q0, .ref q1, .ref q2, .int 0, .int 0])), (q0, .inl (cy 0, 301, .inl (fun _ => 0))), (q1, .inl (cy 0, 301, .inl (fun _ => 0))), (q2, .inl (cy 0, 301, .inl (fun _ => 0)))] := hD
  have hP : va_P D vwCl [(h0, .inr (8, [.ref a1, .ref q0, .ref q1, .ref q2, .int 0, .int 0])), (q0, .inl (cy 0, 301, .inl (fun _ => 0))), (q1, .inl (cy 0, 301, .inl (fun _ => 0))), (q2, .inl (cy 0, 301, .inl (fun _ => 0)))] H := hP
  have hD : va_D A [(h0, .inr (8, [.ref a1, .ref q0, .ref q1, .ref q2, .int 0, .int 0])), (q0, .inl (cy 0, 301, .inl (fun _ => 0))), (q1, .inl (cy 0, 301, .inl (fun _ => 0))), (q2, .inl (cy 0, 301, .inl (fun _ => 0)))] := hD
  have hP9 := hP.sub (ws' := w_X8_init cy h0 a1 (fun i => [q0, q1, q2].getD i 0)) [0, 1, 2, 3] rfl
  have hD9 := hD.sub (ws' := w_X8_init cy h0 a1 (fun i => [q0, q1, q2].getD i 0)) [0, 1, 2, 3] (by decide) rfl
  exact W.vret hx hb hr (fun t ht hW => ⟨⟨fun i => [q0, q1, q2].getD i 0, rfl, trivial, by rw [ht]; exact hP9, hD9⟩, hS.F ht⟩) hS.2.2 dn_X8_init_36
def w_X3_init (cy : Nat → ClassId) (h0 a1 a2 : Nat) (r : Nat → Nat) : va_W := [(h0, .inr (3, [.ref (r 0), .ref a2])), (r 0, .inr (8, [.ref a1, .ref (r 1), .ref (r 2), .ref (r 3), .int 0, .int 0])), (r 1, .inl (cy 0, 301, .inl (fun _ => 0))), (r 2, .inl (cy 0, 301, .inl (fun _ => 0))), (r 3, .inl (cy 0, 301, .inl (fun _ => 0)))]
theorem dn_X3_init_0 : decode cX3_init 0 = .ok (.aload_n 0, 1) := by decide +kernel
theorem dn_X3_init_1 : decode cX3_init 1 = .ok (.invokespecial 3, 3) := by decide +kernel
theorem dn_X3_init_4 : decode cX3_init 4 = .ok (.aload_n 0, 1) := by decide +kernel
theorem dn_X3_init_5 : decode cX3_init 5 = .ok (.new 9, 3) := by decide +kernel
theorem dn_X3_init_8 : decode cX3_init 8 = .ok (.dup, 1) := by decide +kernel
theorem dn_X3_init_9 : decode cX3_init 9 = .ok (.aload_n 1, 1) := by decide +kernel
theorem dn_X3_init_10 : decode cX3_init 10 = .ok (.invokespecial 11, 3) := by decide +kernel
theorem dn_X3_init_13 : decode cX3_init 13 = .ok (.putfield 14, 3) := by decide +kernel
theorem dn_X3_init_16 : decode cX3_init 16 = .ok (.aload_n 0, 1) := by decide +kernel
theorem dn_X3_init_17 : decode cX3_init 17 = .ok (.aload_n 2, 1) := by decide +kernel
theorem dn_X3_init_18 : decode cX3_init 18 = .ok (.putfield 20, 3) := by decide +kernel
theorem dn_X3_init_21 : decode cX3_init 21 = .ok (.return_, 1) := by decide +kernel
def rn_X3_init : Room := { frames := 2, cells := 4, slots := 909, locals := 33 }
set_option maxHeartbeats 1000000 in
set_option maxRecDepth 100000 in
theorem Cn_X3_init {l : Launch} {D : va_G} {cy : Nat → ClassId} (h0 a1 a2 sz : Nat) : Met l yX3_init (.code yX3_init cX3_init 3 none :: q_tb) rn_X3_init (va_Pc [.ref h0, .ref a1, .ref a2] (fun U => U.heap.size = sz ∧ va_P D vwCl [(h0, .inr (3, [.null, .null]))] U.heap ∧ va_K D vwCl (q_tys cy) U ∧ va_D (fun _ => True) [(h0, .inr (3, [.null, .null]))] ∧ q_Zc U)) (va_Qv (fun _ : Nat → Nat => True) (fun r t => va_P D vwCl (w_X3_init cy h0 a1 a2 r) t.heap ∧ va_D (va_A [(h0, .inr (3, [.null, .null]))] sz) (w_X3_init cy h0 a1 a2 r)) (va_A [(h0, .inr (3, [.null, .null]))] sz)) 4 909 (va_A [(h0, .inr (3, [.null, .null]))] sz) := by
  refine Met.ofW (cc := cX3_init) (maxL := 3) (ret := none) (by decide) rfl ?_
  intro p e s m args below meth c s₁ B hml hv
  obtain ⟨rfl, hsz, hP, hK, hD0, hz⟩ := hv
  have hx := B.exec
  have hb := B.bytes
  have hr := B.returns
  have hts0 := atoms_spec (ws := .code yX3_init cX3_init 3 none :: q_tb) B.pre
  have hts : ∀ w ∈ q_tb, w.before _ s = true := fun w h => hts0 w (List.mem_cons_of_mem _ h)
  have hown : s.vm.findClass RX3 = some m.cls := findClass_of_methodNamed B.named
  have hlocks := B.notSynchronized
  have hin : meth.name = "<init>" := (name_of_methodNamed B.named B.method).1
  subst hsz
  have hD := hD0.self (sz := s.heap.size)
  generalize hAe : va_A [(h0, .inr (3, [.null, .null]))] s.heap.size = A at hD ⊢
  have hA : ∀ q : Nat, s.heap.size ≤ q → A q := fun q h => by rw [← hAe]; exact Or.inr h
  have hS : va_S A s.heap s.heap [] := va_S.rf
  have hl := lv_entry ([.ref h0, .ref a1, .ref a2]) (n := 3) (Nat.le_of_ble_eq_true rfl)
  rw [lg_entry_eq]
  generalize (lg_sl ([.ref h0, .ref a1, .ref a2]) ++ List.replicate (3 - (lg_sl ([.ref h0, .ref a1, .ref a2])).length) Slot.unset).toArray = ls at hl ⊢
  have hl : lv_has ls 3 [(0, .ref h0), (1, .ref a1), (2, .ref a2)] := hl
  have hP : va_P D vwCl [(h0, .inr (3, [.null, .null]))] s.heap := hP
  refine lv_aload_n hx hb dn_X3_init_0 rfl (lv_at hl 0 rfl) ?_
  refine W.objInit hx hb hown (hts (.methodLink RX3 3 objectInit) (by decide +kernel)) (hts (.instanceMethod objectInit) (by decide +kernel)) (hts _ cn_code) rfl (by rw [hml]; exact hl.1) rfl dn_X3_init_1 (Nat.le_of_ble_eq_true rfl) (Nat.le_of_ble_eq_true rfl) ?_
  refine W.eq (g2 := F0 m 4 ls []) rfl ?_
  refine lv_aload_n hx hb dn_X3_init_4 rfl (lv_at hl 0 rfl) ?_
  refine va_new (ci := 8) (fs := [.null, .null, .null, .null, .int 0, .int 0]) (C := RX8) (T := TX8) (N := 6) hx hb hts inX8 tyX8 tyX8_ok hown (hts (.classLink RX3 9 RX8) (by decide +kernel)) (hts (.instantiable RX8 6) (by decide +kernel)) (hts (.initialized RX8) (by decide +kernel)) hK hP hD hS hA rfl (fun j hj => by rcases (show j = 0 ∨ j = 1 ∨ j = 2 ∨ j = 3 ∨ j = 4 ∨ j = 5 by omega) with rfl | rfl | rfl | rfl | rfl | rfl <;> rfl) (Nat.le_of_ble_eq_true rfl) (Nat.le_of_ble_eq_true rfl) dn_X3_init_5 (fun q0 H hP hD hS => ?_)
  have hP : va_P D vwCl [(h0, .inr (3, [.null, .null])), (q0, .inr (8, [.null, .null, .null, .null, .int 0, .int 0]))] H := hP
  have hD : va_D A [(h0, .inr (3, [.null, .null])), (q0, .inr (8, [.null, .null, .null, .null, .int 0, .int 0]))] := hD
  refine W.widen (k := 1) (n := 6) (Nat.le_of_ble_eq_true rfl) (Nat.le_of_ble_eq_true rfl) ?_
  refine lv_dup hx hb dn_X3_init_8 rfl ?_
  refine lv_aload_n hx hb dn_X3_init_9 rfl (lv_at hl 1 rfl) ?_
  have hPc := hP.sub (ws' := [(q0, .inr (8, [.null, .null, .null, .null, .int 0, .int 0]))]) [1] rfl
  have hDc := hD.sub (ws' := [(q0, .inr (8, [.null, .null, .null, .null, .int 0, .int 0]))]) [1] (by decide) rfl
  have hFc := va_free (wc := [(q0, .inr (8, [.null, .null, .null, .null, .int 0, .int 0]))]) hD hS hA [1] rfl
  refine va_callv (va_runI (As := [.ref a1]) (rest := [.ref q0, .ref h0]) ⟨hx, hb, hml, hown, hts⟩ (Cn_X8_init (l := l) (D := D) (cy := cy) q0 a1 H.size) (cwI 1 hts (q_goodW (show Cond.code yX8_init cX8_init 2 none ∈ q_tb by decide +kernel)) rfl rfl rfl (hts (.initialized RX8) (by decide +kernel)) (hts (.methodLink RX3 11 yX8_init) (by decide +kernel)) (hts (.instanceMethod yX8_init) (by decide +kernel)) rfl (by decide +kernel) ⟨Nat.le_of_ble_eq_true rfl, Nat.le_of_ble_eq_true rfl⟩) ⟨fun a U g mk q => by obtain ⟨q0, q1, qP, qK, qD, qZ⟩ := q; exact ⟨q0, q1, qP, va_K.moved (u := U) (U := U.calling g mk a) (Vm.Alike.refl U.vm) qK, qD, zc_same (s := U) rfl qZ⟩, fun U hU hW => ⟨rfl, by rw [hU], by rw [hU]; exact hPc, va_K.moved hW.alike hK, hDc.weaken (fun _ _ _ _ => trivial), zc_warm hW hz⟩⟩ rfl rfl hl.1 rfl (lv_room (Nat.le_of_ble_eq_true rfl)) dn_X3_init_10 ⟨Nat.le_of_ble_eq_true rfl, Nat.le_of_ble_eq_true rfl⟩) hS (fun q _ h => hFc q h) hFc (fun u10 t H1 locs ht hvm _ hB hz1 hk1 hS => ?_)
  obtain ⟨hP1, hD1⟩ := hB
  rw [ht] at hP1
  obtain ⟨hP, hD⟩ := va_join (wr := [(h0, .inr (3, [.null, .null]))]) (w1 := [(q0, .inr (8, [.ref a1, .ref (u10 0), .ref (u10 1), .ref (u10 2), .int 0, .int 0])), ((u10 0), .inl (cy 0, 301, .inl (fun _ => 0))), ((u10 1), .inl (cy 0, 301, .inl (fun _ => 0))), ((u10 2), .inl (cy 0, 301, .inl (fun _ => 0)))]) hP hD [1] [0] rfl rfl (by decide) (by decide) hk1 hFc hP1 hD1
  generalize H1 = H at hP hS ⊢
  have hP : va_P D vwCl [(h0, .inr (3, [.null, .null])), (q0, .inr (8, [.ref a1, .ref (u10 0), .ref (u10 1), .ref (u10 2), .int 0, .int 0])), ((u10 0), .inl (cy 0, 301, .inl (fun _ => 0))), ((u10 1), .inl (cy 0, 301, .inl (fun _ => 0))), ((u10 2), .inl (cy 0, 301, .inl (fun _ => 0)))] H := hP
  have hD : va_D A [(h0, .inr (3, [.null, .null])), (q0, .inr (8, [.ref a1, .ref (u10 0), .ref (u10 1), .ref (u10 2), .int 0, .int 0])), ((u10 0), .inl (cy 0, 301, .inl (fun _ => 0))), ((u10 1), .inl (cy 0, 301, .inl (fun _ => 0))), ((u10 2), .inl (cy 0, 301, .inl (fun _ => 0)))] := hD
  refine W.widen (k := 4) (n := 909) (Nat.le_of_ble_eq_true rfl) (Nat.le_of_ble_eq_true rfl) ?_
  refine va_putF (D := D) (ci := 3) (v := .ref q0) (ty := .object "BoardSums$Tokens") (C := RX3) (T := TX3) (N := 2) hx hb hts inX3 tyX3 tyX3_ok nmX3 hown hK hP hD hS 0 rfl rfl 0 (by decide) (hts (.fieldLink RX3 14 "BoardSums$Reader" "tokens" "LBoardSums$Tokens;") (by decide +kernel)) (fun _ h9 => h9) rfl hin rfl (by decide +kernel) rfl rfl (by simp) dn_X3_init_13 (fun H locs hP hD hS => ?_)
  have hP : va_P D vwCl [(h0, .inr (3, [.ref q0, .null])), (q0, .inr (8, [.ref a1, .ref (u10 0), .ref (u10 1), .ref (u10 2), .int 0, .int 0])), ((u10 0), .inl (cy 0, 301, .inl (fun _ => 0))), ((u10 1), .inl (cy 0, 301, .inl (fun _ => 0))), ((u10 2), .inl (cy 0, 301, .inl (fun _ => 0)))] H := hP
  have hD : va_D A [(h0, .inr (3, [.ref q0, .null])), (q0, .inr (8, [.ref a1, .ref (u10 0), .ref (u10 1), .ref (u10 2), .int 0, .int 0])), ((u10 0), .inl (cy 0, 301, .inl (fun _ => 0))), ((u10 1), .inl (cy 0, 301, .inl (fun _ => 0))), ((u10 2), .inl (cy 0, 301, .inl (fun _ => 0)))] := hD
  refine lv_aload_n hx hb dn_X3_init_16 rfl (lv_at hl 0 rfl) ?_
  refine lv_aload_n hx hb dn_X3_init_17 rfl (lv_at hl 2 rfl) ?_
  refine va_put (D := D) (ci := 3) (v := .ref a2) (ty := .object "BoardSums$Plan") (C := RX3) (T := TX3) (N := 2) hx hb hts inX3 tyX3 tyX3_ok nmX3 hown hK hP hD hS 0 rfl rfl 1 (by decide) (hts (.fieldLink RX3 20 "BoardSums$Reader" "plan" "LBoardSums$Plan;") (by decide +kernel)) (fun _ h9 => h9) rfl (by decide +kernel) rfl rfl (by simp) dn_X3_init_18 (fun H locs hP hD hS => ?_)
  have hP : va_P D vwCl [(h0, .inr (3, [.ref q0, .ref a2])), (q0, .inr (8, [.ref a1, .ref (u10 0), .ref (u10 1), .ref (u10 2), .int 0, .int 0])), ((u10 0), .inl (cy 0, 301, .inl (fun _ => 0))), ((u10 1), .inl (cy 0, 301, .inl (fun _ => 0))), ((u10 2), .inl (cy 0, 301, .inl (fun _ => 0)))] H := hP
  have hD : va_D A [(h0, .inr (3, [.ref q0, .ref a2])), (q0, .inr (8, [.ref a1, .ref (u10 0), .ref (u10 1), .ref (u10 2), .int 0, .int 0])), ((u10 0), .inl (cy 0, 301, .inl (fun _ => 0))), ((u10 1), .inl (cy 0, 301, .inl (fun _ => 0))), ((u10 2), .inl (cy 0, 301, .inl (fun _ => 0)))] := hD
  have hP : va_P D vwCl [(h0, .inr (3, [.ref q0, .ref a2])), (q0, .inr (8, [.ref a1, .ref (u10 0), .ref (u10 1), .ref (u10 2), .int 0, .int 0])), ((u10 0), .inl (cy 0, 301, .inl (fun _ => 0))), ((u10 1), .inl (cy 0, 301, .inl (fun _ => 0))), ((u10 2), .inl (cy 0, 301, .inl (fun _ => 0)))] H := hP
  have hD : va_D A [(h0, .inr (3, [.ref q0, .ref a2])), (q0, .inr (8, [.ref a1, .ref (u10 0), .ref (u10 1), .ref (u10 2), .int 0, .int 0])), ((u10 0), .inl (cy 0, 301, .inl (fun _ => 0))), ((u10 1), .inl (cy 0, 301, .inl (fun _ => 0))), ((u10 2), .inl (cy 0, 301, .inl (fun _ => 0)))] := hD
  have hP9 := hP.sub (ws' := w_X3_init cy h0 a1 a2 (fun i => [q0, (u10 0), (u10 1), (u10 2)].getD i 0)) [0, 1, 2, 3, 4] rfl
  have hD9 := hD.sub (ws' := w_X3_init cy h0 a1 a2 (fun i => [q0, (u10 0), (u10 1), (u10 2)].getD i 0)) [0, 1, 2, 3, 4] (by decide) rfl
  exact W.vret hx hb hr (fun t ht hW => ⟨⟨fun i => [q0, (u10 0), (u10 1), (u10 2)].getD i 0, rfl, trivial, by rw [ht]; exact hP9, hD9⟩, hS.F ht⟩) hS.2.2 dn_X3_init_21
def w_X0_init (cy : Nat → ClassId) (h0 : Nat) (r : Nat → Nat) : va_W := [(h0, .inr (0, [.int (Int32.ofInt (k_G 1 0)), .int (Int32.ofInt (k_G 1 1)), .int (Int32.ofInt (k_G 1 2))]))]
theorem dn_X0_init_0 : decode cX0_init 0 = .ok (.aload_n 0, 1) := by decide +kernel
theorem dn_X0_init_1 : decode cX0_init 1 = .ok (.invokespecial 3, 3) := by decide +kernel
theorem dn_X0_init_4 : decode cX0_init 4 = .ok (.aload_n 0, 1) := by decide +kernel
theorem dn_X0_init_5 : decode cX0_init 5 = .ok (.bipush 8, 2) := by decide +kernel
theorem dn_X0_init_7 : decode cX0_init 7 = .ok (.bipush 8, 2) := by decide +kernel
theorem dn_X0_init_9 : decode cX0_init 9 = .ok (.invokevirtual 9, 3) := by decide +kernel
theorem dn_X0_init_12 : decode cX0_init 12 = .ok (.return_, 1) := by decide +kernel
def rn_X0_init : Room := { frames := 2, cells := 0, slots := 0, locals := 45 }
set_option maxHeartbeats 1000000 in
set_option maxRecDepth 100000 in
theorem Cn_X0_init {l : Launch} {D : va_G} {cy : Nat → ClassId} (h0 sz : Nat) : Met l yX0_init (.code yX0_init cX0_init 1 none :: q_tb) rn_X0_init (va_Pc [.ref h0] (fun U => U.heap.size = sz ∧ va_P D vwCl [(h0, .inr (0, [.int 0, .int 0, .int 0]))] U.heap ∧ va_K D vwCl (q_tys cy) U ∧ va_D (fun _ => True) [(h0, .inr (0, [.int 0, .int 0, .int 0]))] ∧ q_Zc U)) (va_Qv (fun _ : Nat → Nat => True) (fun r t => va_P D vwCl (w_X0_init cy h0 r) t.heap ∧ va_D (va_A [(h0, .inr (0, [.int 0, .int 0, .int 0]))] sz) (w_X0_init cy h0 r)) (va_A [(h0, .inr (0, [.int 0, .int 0, .int 0]))] sz)) 0 0 (va_A [(h0, .inr (0, [.int 0, .int 0, .int 0]))] sz) := by
  refine Met.ofW (cc := cX0_init) (maxL := 1) (ret := none) (by decide) rfl ?_
  intro p e s m args below meth c s₁ B hml hv
  obtain ⟨rfl, hsz, hP, hK, hD0, hz⟩ := hv
  have hx := B.exec
  have hb := B.bytes
  have hr := B.returns
  have hts0 := atoms_spec (ws := .code yX0_init cX0_init 1 none :: q_tb) B.pre
  have hts : ∀ w ∈ q_tb, w.before _ s = true := fun w h => hts0 w (List.mem_cons_of_mem _ h)
  have hown : s.vm.findClass RX0 = some m.cls := findClass_of_methodNamed B.named
  have hlocks := B.notSynchronized
  have hin : meth.name = "<init>" := (name_of_methodNamed B.named B.method).1
  subst hsz
  have hD := hD0.self (sz := s.heap.size)
  generalize hAe : va_A [(h0, .inr (0, [.int 0, .int 0, .int 0]))] s.heap.size = A at hD ⊢
  have hA : ∀ q : Nat, s.heap.size ≤ q → A q := fun q h => by rw [← hAe]; exact Or.inr h
  have hS : va_S A s.heap s.heap [] := va_S.rf
  have hl := lv_entry ([.ref h0]) (n := 1) (Nat.le_of_ble_eq_true rfl)
  rw [lg_entry_eq]
  generalize (lg_sl ([.ref h0]) ++ List.replicate (1 - (lg_sl ([.ref h0])).length) Slot.unset).toArray = ls at hl ⊢
  have hl : lv_has ls 1 [(0, .ref h0)] := hl
  have hP : va_P D vwCl [(h0, .inr (0, [.int 0, .int 0, .int 0]))] s.heap := hP
  refine lv_aload_n hx hb dn_X0_init_0 rfl (lv_at hl 0 rfl) ?_
  refine W.objInit hx hb hown (hts (.methodLink RX0 3 objectInit) (by decide +kernel)) (hts (.instanceMethod objectInit) (by decide +kernel)) (hts _ cn_code) rfl (by rw [hml]; exact hl.1) rfl dn_X0_init_1 (Nat.le_of_ble_eq_true rfl) (Nat.le_of_ble_eq_true rfl) ?_
  refine W.eq (g2 := F0 m 4 ls []) rfl ?_
  refine lv_aload_n hx hb dn_X0_init_4 rfl (lv_at hl 0 rfl) ?_
  refine lv_bipush hx hb dn_X0_init_5 (v := 8) rfl ?_
  refine lv_bipush hx hb dn_X0_init_7 (v := 8) rfl ?_
  refine cn_call (own := RX0) (rA := [.inl 8, .inl 8]) (b := 1) (ci := 0) (ad := fun _ => h0) (T := q_Tm [1]) (N := [1]) (μ := k_0) (μ' := k_G) (rest := []) (wr := []) hx hb hml hown hts hK (zc_ok _) hz (fun U hW => zc_warm hW hz) (Cg_X0_shape (T := q_Tm [1]) (N := [1]) (zc_ok _) (fun s h q hq => h.1 q (List.mem_append_left _ hq)) (q_wokM (by decide)) (fun a q => by subst q; rfl)) (q_wokM (by decide)) (by decide +kernel) (by decide +kernel) (by decide +kernel) (by decide +kernel) (by decide +kernel) (by decide +kernel) ⟨rfl, rfl⟩ (by decide) (by decide) rfl rfl rfl rfl (by rw [show ([.inl 8, .inl 8] ++ [.inr (.inr 1)] : List QV) = [.inl 8, .inl 8, .inr (.inr 1)] from rfl, sp_X0_shape_e]; exact ⟨rfl, by decide, rfl, rfl⟩) hl.1 (by decide) dn_X0_init_9 [0] [] rfl rfl (by decide) (by decide) (by decide) hP hD hS hA (fun H locs hP hD hS => ?_)
  have hP : va_P D vwCl [(h0, .inr (0, [.int (Int32.ofInt (k_G 1 0)), .int (Int32.ofInt (k_G 1 1)), .int (Int32.ofInt (k_G 1 2))]))] H := hP
  have hD : va_D A [(h0, .inr (0, [.int (Int32.ofInt (k_G 1 0)), .int (Int32.ofInt (k_G 1 1)), .int (Int32.ofInt (k_G 1 2))]))] := hD
  have hP : va_P D vwCl [(h0, .inr (0, [.int (Int32.ofInt (k_G 1 0)), .int (Int32.ofInt (k_G 1 1)), .int (Int32.ofInt (k_G 1 2))]))] H := hP
  have hD : va_D A [(h0, .inr (0, [.int (Int32.ofInt (k_G 1 0)), .int (Int32.ofInt (k_G 1 1)), .int (Int32.ofInt (k_G 1 2))]))] := hD
  have hP9 := hP.sub (ws' := w_X0_init cy h0 (fun i => [].getD i 0)) [0] rfl
  have hD9 := hD.sub (ws' := w_X0_init cy h0 (fun i => [].getD i 0)) [0] (by decide) rfl
  exact W.vret hx hb hr (fun t ht hW => ⟨⟨fun i => [].getD i 0, rfl, trivial, by rw [ht]; exact hP9, hD9⟩, hS.F ht⟩) hS.2.2 dn_X0_init_12

