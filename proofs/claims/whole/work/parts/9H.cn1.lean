/-! constructors -/
theorem zc_aoa {u U : State} (hvm : u.vm.Alike U.vm) (h : va_AOA .int u) : va_AOA .int U := by
  have h2 : (Cond.arrayOver (.array .int)).before #[] (u.setVm U.vm) = true := by
    rw [Cond.arrayOver_setVmC hvm]
    exact h
  first
    | exact va_tabs rfl (rfl : (u.setVm U.vm).vm = U.vm) h2
    | exact h2
theorem zc_warm {s U : State} (hW : s.WarmedH U.vm) (h : q_Zc s) : q_Zc U := by
  refine ⟨fun q hq => va_Nw.warmM hW (h.1 q hq), va_AO.moved hW.alike h.2.1, ?_⟩
  exact zc_aoa hW.alike h.2.2
theorem zc_same {s U : State} (hv : U.vm = s.vm) (h : q_Zc s) : q_Zc U := by
  refine ⟨fun q hq => va_Nw.same rfl hv.symm (h.1 q hq), ?_, ?_⟩
  · exact va_AO.moved (by rw [hv]; exact Vm.Alike.refl s.vm) h.2.1
  · exact zc_aoa (by rw [hv]; exact Vm.Alike.refl s.vm) h.2.2
theorem zc_ok (A : Nat → Prop) : q_Zok A q_Zc := ⟨fun s U h hW _ _ => zc_warm hW h, fun s U h hv _ => zc_same hv h⟩
theorem cn_code : Cond.code objectInit ⟨#[0xb1]⟩ 1 none ∈ q_tb := by decide +kernel
def k_0 : QM := fun _ _ => 0
def k_G : QM := q_up (q_up (q_up k_0 1 0 8) 1 1 8) 1 2 (q_tm 8 8)
def k_S : QM := q_fill (q_rows k_0 4 4 196 (-2000000000)) 12 0 3 0
def k_P (P : Int) : QM := q_fill (q_up k_0 P 2 0) (P + 2) 0 26 (-1)
def k_V : QM := fun a j => if a = 20 ∧ j = 5 then 39 else if a = 36 then (if j = 0 then 1 else if j = 1 then 14 else if j = 2 then -1 else if j = 3 then -14 else 0) else 0
def k_W : QM := q_rows (q_fill k_V 21 0 10 0) 24 10 196 (-2000000000)
def k_N : QM := fun a j => if a = 85 then (if j = 2 then 8 else if j = 3 then 8 else if j = 36 then -1 else 0) else if a = 104 then (if 0 ≤ j ∧ j < 26 then 0 else -1) else 0
def k_M : QM := q_fill (q_fill (q_fill k_N 86 0 576 (-2000000000)) 88 0 3 0) 94 0 90 0
/-- numbers of an array, said otherwise -/
theorem cn_fixI {D : va_G} {ws : va_W} {H : Heap} {a : Nat} {cA : ClassId} {n q0 : Nat} {f g : Nat → Int32} (hP : va_P D vwCl ws H) (ha : ws[q0]? = some (a, .inl (cA, n, .inl f))) (hfg : ∀ j : Nat, j < n → f j = g j) : va_P D vwCl (ws.set q0 (a, .inl (cA, n, .inl g))) H := by
  intro k q hk
  by_cases c : q0 = k
  · subst c
    rw [List.getElem?_set_self (List.getElem?_eq_some_iff.mp ha).1] at hk
    cases hk
    have := hP q0 _ ha
    show H[a]? = some (vp_cell cA (n, .inl g))
    have h2 : H[a]? = some (vp_cell cA (n, .inl f)) := this
    rw [h2]
    show some (arrV cA n (fun j => .int (f j))) = some (arrV cA n (fun j => .int (g j)))
    congr 1
    unfold arrV
    congr 1
    refine Array.ext (by simp) (fun i h1 h2 => ?_)
    simp only [Array.getElem_ofFn]
    rw [hfg i (by simpa using h1)]
  · rw [List.getElem?_set_ne c] at hk
    exact hP k q hk
def w_X6_init (cy : Nat → ClassId) (h0 : Nat) (r : Nat → Nat) : va_W := [(h0, .inr (6, [.long 0, .int 0, .int 0, .int 0]))]
theorem dn_X6_init_0 : decode cX6_init 0 = .ok (.aload_n 0, 1) := by decide +kernel
theorem dn_X6_init_1 : decode cX6_init 1 = .ok (.invokespecial 3, 3) := by decide +kernel
theorem dn_X6_init_4 : decode cX6_init 4 = .ok (.return_, 1) := by decide +kernel
def rn_X6_init : Room := { frames := 1, cells := 0, slots := 0, locals := 12 }
set_option maxHeartbeats 1000000 in
set_option maxRecDepth 100000 in
theorem Cn_X6_init {l : Launch} {D : va_G} {cy : Nat → ClassId} (h0 sz : Nat) : Met l yX6_init (.code yX6_init cX6_init 1 none :: q_tb) rn_X6_init (va_Pc [.ref h0] (fun U => U.heap.size = sz ∧ va_P D vwCl [(h0, .inr (6, [.long 0, .int 0, .int 0, .int 0]))] U.heap ∧ va_K D vwCl (q_tys cy) U ∧ va_D (fun _ => True) [(h0, .inr (6, [.long 0, .int 0, .int 0, .int 0]))] ∧ q_Zc U)) (va_Qv (fun _ : Nat → Nat => True) (fun r t => va_P D vwCl (w_X6_init cy h0 r) t.heap ∧ va_D (va_A [(h0, .inr (6, [.long 0, .int 0, .int 0, .int 0]))] sz) (w_X6_init cy h0 r)) (va_A [(h0, .inr (6, [.long 0, .int 0, .int 0, .int 0]))] sz)) 0 0 (va_A [(h0, .inr (6, [.long 0, .int 0, .int 0, .int 0]))] sz) := by
  refine Met.ofW (cc := cX6_init) (maxL := 1) (ret := none) (by decide) rfl ?_
  intro p e s m args below meth c s₁ B hml hv
  obtain ⟨rfl, hsz, hP, hK, hD0, hz⟩ := hv
  have hx := B.exec
  have hb := B.bytes
  have hr := B.returns
  have hts0 := atoms_spec (ws := .code yX6_init cX6_init 1 none :: q_tb) B.pre
  have hts : ∀ w ∈ q_tb, w.before _ s = true := fun w h => hts0 w (List.mem_cons_of_mem _ h)
  have hown : s.vm.findClass RX6 = some m.cls := findClass_of_methodNamed B.named
  have hlocks := B.notSynchronized
  have hin : meth.name = "<init>" := (name_of_methodNamed B.named B.method).1
  subst hsz
  have hD := hD0.self (sz := s.heap.size)
  generalize hAe : va_A [(h0, .inr (6, [.long 0, .int 0, .int 0, .int 0]))] s.heap.size = A at hD ⊢
  have hA : ∀ q : Nat, s.heap.size ≤ q → A q := fun q h => by rw [← hAe]; exact Or.inr h
  have hS : va_S A s.heap s.heap [] := va_S.rf
  have hl := lv_entry ([.ref h0]) (n := 1) (Nat.le_of_ble_eq_true rfl)
  rw [lg_entry_eq]
  generalize (lg_sl ([.ref h0]) ++ List.replicate (1 - (lg_sl ([.ref h0])).length) Slot.unset).toArray = ls at hl ⊢
  have hl : lv_has ls 1 [(0, .ref h0)] := hl
  have hP : va_P D vwCl [(h0, .inr (6, [.long 0, .int 0, .int 0, .int 0]))] s.heap := hP
  refine lv_aload_n hx hb dn_X6_init_0 rfl (lv_at hl 0 rfl) ?_
  refine W.objInit hx hb hown (hts (.methodLink RX6 3 objectInit) (by decide +kernel)) (hts (.instanceMethod objectInit) (by decide +kernel)) (hts _ cn_code) rfl (by rw [hml]; exact hl.1) rfl dn_X6_init_1 (Nat.le_of_ble_eq_true rfl) (Nat.le_of_ble_eq_true rfl) ?_
  refine W.eq (g2 := F0 m 4 ls []) rfl ?_
  have hP : va_P D vwCl [(h0, .inr (6, [.long 0, .int 0, .int 0, .int 0]))] s.heap := hP
  have hD : va_D A [(h0, .inr (6, [.long 0, .int 0, .int 0, .int 0]))] := hD
  have hP9 := hP.sub (ws' := w_X6_init cy h0 (fun i => [].getD i 0)) [0] rfl
  have hD9 := hD.sub (ws' := w_X6_init cy h0 (fun i => [].getD i 0)) [0] (by decide) rfl
  exact W.vret hx hb hr (fun t ht hW => ⟨⟨fun i => [].getD i 0, rfl, trivial, by rw [ht]; exact hP9, hD9⟩, hS.F ht⟩) hS.2.2 dn_X6_init_4
def w_X4_init (cy : Nat → ClassId) (h0 : Nat) (r : Nat → Nat) : va_W := [(h0, .inr (4, [.ref (r 0), .int 0, .int 0, .int 0, .int 0])), (r 0, .inl (cy 0, 3, .inl (fun _ => 0)))]
theorem dn_X4_init_0 : decode cX4_init 0 = .ok (.aload_n 0, 1) := by decide +kernel
theorem dn_X4_init_1 : decode cX4_init 1 = .ok (.invokespecial 3, 3) := by decide +kernel
theorem dn_X4_init_4 : decode cX4_init 4 = .ok (.aload_n 0, 1) := by decide +kernel
theorem dn_X4_init_5 : decode cX4_init 5 = .ok (.iconst 3, 1) := by decide +kernel
theorem dn_X4_init_6 : decode cX4_init 6 = .ok (.newarray .int, 2) := by decide +kernel
theorem dn_X4_init_8 : decode cX4_init 8 = .ok (.putfield 9, 3) := by decide +kernel
theorem dn_X4_init_11 : decode cX4_init 11 = .ok (.return_, 1) := by decide +kernel
def rn_X4_init : Room := { frames := 1, cells := 1, slots := 3, locals := 12 }
set_option maxHeartbeats 1000000 in
set_option maxRecDepth 100000 in
theorem Cn_X4_init {l : Launch} {D : va_G} {cy : Nat → ClassId} (h0 sz : Nat) : Met l yX4_init (.code yX4_init cX4_init 1 none :: q_tb) rn_X4_init (va_Pc [.ref h0] (fun U => U.heap.size = sz ∧ va_P D vwCl [(h0, .inr (4, [.null, .int 0, .int 0, .int 0, .int 0]))] U.heap ∧ va_K D vwCl (q_tys cy) U ∧ va_D (fun _ => True) [(h0, .inr (4, [.null, .int 0, .int 0, .int 0, .int 0]))] ∧ q_Zc U)) (va_Qv (fun _ : Nat → Nat => True) (fun r t => va_P D vwCl (w_X4_init cy h0 r) t.heap ∧ va_D (va_A [(h0, .inr (4, [.null, .int 0, .int 0, .int 0, .int 0]))] sz) (w_X4_init cy h0 r)) (va_A [(h0, .inr (4, [.null, .int 0, .int 0, .int 0, .int 0]))] sz)) 1 3 (va_A [(h0, .inr (4, [.null, .int 0, .int 0, .int 0, .int 0]))] sz) := by
  refine Met.ofW (cc := cX4_init) (maxL := 1) (ret := none) (by decide) rfl ?_
  intro p e s m args below meth c s₁ B hml hv
  obtain ⟨rfl, hsz, hP, hK, hD0, hz⟩ := hv
  have hx := B.exec
  have hb := B.bytes
  have hr := B.returns
  have hts0 := atoms_spec (ws := .code yX4_init cX4_init 1 none :: q_tb) B.pre
  have hts : ∀ w ∈ q_tb, w.before _ s = true := fun w h => hts0 w (List.mem_cons_of_mem _ h)
  have hown : s.vm.findClass RX4 = some m.cls := findClass_of_methodNamed B.named
  have hlocks := B.notSynchronized
  have hin : meth.name = "<init>" := (name_of_methodNamed B.named B.method).1
  subst hsz
  have hD := hD0.self (sz := s.heap.size)
  generalize hAe : va_A [(h0, .inr (4, [.null, .int 0, .int 0, .int 0, .int 0]))] s.heap.size = A at hD ⊢
  have hA : ∀ q : Nat, s.heap.size ≤ q → A q := fun q h => by rw [← hAe]; exact Or.inr h
  have hS : va_S A s.heap s.heap [] := va_S.rf
  have hl := lv_entry ([.ref h0]) (n := 1) (Nat.le_of_ble_eq_true rfl)
  rw [lg_entry_eq]
  generalize (lg_sl ([.ref h0]) ++ List.replicate (1 - (lg_sl ([.ref h0])).length) Slot.unset).toArray = ls at hl ⊢
  have hl : lv_has ls 1 [(0, .ref h0)] := hl
  have hP : va_P D vwCl [(h0, .inr (4, [.null, .int 0, .int 0, .int 0, .int 0]))] s.heap := hP
  refine lv_aload_n hx hb dn_X4_init_0 rfl (lv_at hl 0 rfl) ?_
  refine W.objInit hx hb hown (hts (.methodLink RX4 3 objectInit) (by decide +kernel)) (hts (.instanceMethod objectInit) (by decide +kernel)) (hts _ cn_code) rfl (by rw [hml]; exact hl.1) rfl dn_X4_init_1 (Nat.le_of_ble_eq_true rfl) (Nat.le_of_ble_eq_true rfl) ?_
  refine W.eq (g2 := F0 m 4 ls []) rfl ?_
  refine lv_aload_n hx hb dn_X4_init_4 rfl (lv_at hl 0 rfl) ?_
  refine lv_iconst hx hb dn_X4_init_5 (v := 3) rfl ?_
  refine cn_newa (atype := .int) (ty := .int) hx hb (hts (.arrayClass .int) (by decide +kernel)) rfl hK hP hD hS hA (a0 := (3, .inl (fun _ => 0))) 0 rfl (fun _ => rfl) (by decide +kernel) (by decide +kernel) (Nat.le_of_ble_eq_true rfl) (Nat.le_of_ble_eq_true rfl) (Nat.le_of_ble_eq_true rfl) dn_X4_init_6 (fun q0 H hP hD hS => ?_)
  have hP : va_P D vwCl [(h0, .inr (4, [.null, .int 0, .int 0, .int 0, .int 0])), (q0, .inl (cy 0, 3, .inl (fun _ => 0)))] H := hP
  have hD : va_D A [(h0, .inr (4, [.null, .int 0, .int 0, .int 0, .int 0])), (q0, .inl (cy 0, 3, .inl (fun _ => 0)))] := hD
  refine W.widen (k := 1) (n := 3) (Nat.le_of_ble_eq_true rfl) (Nat.le_of_ble_eq_true rfl) ?_
  refine va_putF (D := D) (ci := 4) (v := .ref q0) (ty := .array .int) (C := RX4) (T := TX4) (N := 5) hx hb hts inX4 tyX4 tyX4_ok nmX4 hown hK hP hD hS 0 rfl rfl 0 (by decide) (hts (.fieldLink RX4 9 "BoardSums$Recipe" "named" "[I") (by decide +kernel)) (fun _ h9 => h9) rfl hin rfl (by decide +kernel) rfl rfl (by decide) dn_X4_init_8 (fun H locs hP hD hS => ?_)
  have hP : va_P D vwCl [(h0, .inr (4, [.ref q0, .int 0, .int 0, .int 0, .int 0])), (q0, .inl (cy 0, 3, .inl (fun _ => 0)))] H := hP
  have hD : va_D A [(h0, .inr (4, [.ref q0, .int 0, .int 0, .int 0, .int 0])), (q0, .inl (cy 0, 3, .inl (fun _ => 0)))] := hD
  have hP : va_P D vwCl [(h0, .inr (4, [.ref q0, .int 0, .int 0, .int 0, .int 0])), (q0, .inl (cy 0, 3, .inl (fun _ => 0)))] H := hP
  have hD : va_D A [(h0, .inr (4, [.ref q0, .int 0, .int 0, .int 0, .int 0])), (q0, .inl (cy 0, 3, .inl (fun _ => 0)))] := hD
  have hP9 := hP.sub (ws' := w_X4_init cy h0 (fun i => [q0].getD i 0)) [0, 1] rfl
  have hD9 := hD.sub (ws' := w_X4_init cy h0 (fun i => [q0].getD i 0)) [0, 1] (by decide) rfl
  exact W.vret hx hb hr (fun t ht hW => ⟨⟨fun i => [q0].getD i 0, rfl, trivial, by rw [ht]; exact hP9, hD9⟩, hS.F ht⟩) hS.2.2 dn_X4_init_11

