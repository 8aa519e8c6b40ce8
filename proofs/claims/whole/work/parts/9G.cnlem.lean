/-! constructors: what they stand on -/
theorem cn_ra {s : State} {a b : ClassId} {ty : FieldType} (ha : va_RA s a ty) (hb : va_RA s b ty) : a = b := by
  cases ty with
  | object C =>
    obtain ⟨-, -, -, -, -, h1⟩ := ha
    obtain ⟨-, -, -, -, -, h2⟩ := hb
    exact Option.some.inj (h1.symm.trans h2)
  | _ => exact Option.some.inj (Eq.trans (Eq.symm ha) hb)
/-- what else is known while objects are made -/
def q_ncs : List (String × Nat × MethodName × String) := [(RX10, 25, yX7_init, "BoardSums"), (RX2, 21, yX4_init, "BoardSums"), (RX1, 11, yX6_init, "BoardSums")]
def q_Zc (U : State) : Prop := (∀ q ∈ q_nst ++ q_ncs, va_Nw (.methodLinkNest q.1 q.2.1 q.2.2.1 q.2.2.2) U) ∧ va_AO RX4 U ∧ va_AOA .int U
def q_Tm (N : List Int) : Int → Option QS := fun a => if a ∈ N then q_T a else none
theorem q_wokM {N : List Int} (hn : N.Nodup) : q_wok (q_Tm N) N := by
  refine ⟨fun i j a hi hj => ?_, fun a sh h => ?_, fun a ci ks q h hq => ?_⟩
  · obtain ⟨h1, e1⟩ := List.getElem?_eq_some_iff.mp hi
    exact (List.getElem?_inj h1 hn).mp (hi.trans hj.symm)
  · unfold q_Tm at h
    by_cases c : a ∈ N
    · rw [if_pos c] at h
      exact ⟨c, (q_wokT.2.1 a sh h).2⟩
    · rw [if_neg c] at h
      cases h
  · unfold q_Tm at h
    by_cases c : a ∈ N
    · rw [if_pos c] at h
      exact q_wokT.2.2 a ci ks q h hq
    · rw [if_neg c] at h
      cases h
theorem q_wsM {N : List Int} {ad : Int → Nat} {cy : Nat → ClassId} {μ : QM} : q_ws (q_Tm N) N ad cy μ = q_ws q_T N ad cy μ := by
  unfold q_ws
  refine List.map_congr_left (fun a ha => ?_)
  unfold q_Tm
  rw [if_pos ha]
section CN
variable {p : Program} {l : Launch} {e : Env} {R : Room} {s : State} {m : MethodId} {args : Array Value} {below : List Frame} {meth : Method} {c : Code} {H : Heap} {locs : List Loc} {cells slots : Nat} {Q : State → Prop}
variable {cc : ByteArray} {pc : Nat} {ls : Array Slot} {rest : List Value} {D : va_G} {A : Nat → Prop} {a : Nat} {ws : va_W} {H0 : Heap} {cy : Nat → ClassId}
theorem cn_newa (hexec : p.tables.exec = Jvm.exec) (hb : c.code = cc) {atype : ArrayType} (harr : (Cond.arrayClass (newarray.typeOf atype)).before args s = true) {ty : FieldType} (hty : newarray.typeOf atype = ty) (hK : va_K D vwCl (q_tys cy) s) (hP : va_P D vwCl ws H) (hD : va_D A ws) (hS : va_S A H0 H locs) (hA : ∀ q, H0.size ≤ q → A q) {n : Int32} {N' : Nat} {a0 : vp_A} (t : Nat) (ht : (q_tys cy)[t]? = some (cy t, ty)) (ha : ∀ cA : ClassId, vp_cell cA a0 = arrV cA N' (fun _ => defaultValue ty)) (hn : ¬ n < 0) (hN : n.toNatClampNeg = N') (hbytes : N' * componentBytes ty ≤ 536870912) (hcells : cells + 1 ≤ R.cells) (hslots : slots + N' ≤ R.slots) (hdg : decode cc pc = .ok (.newarray atype, 2))
    (kk : ∀ (q : Nat) (H1 : Heap), va_P D vwCl (ws ++ [(q, .inl (cy t, a0))]) H1 → va_D A (ws ++ [(q, .inl (cy t, a0))]) → va_S A H0 H1 locs →
      W p l e R s m args below meth c H1 locs (cells + 1) (slots + N') Q (F0 m (pc + 2) ls (.ref q :: rest))) : W p l e R s m args below meth c H locs cells slots Q (F0 m pc ls (.int n :: rest)) := by
  refine va_newa hexec hb harr hty hK hP hD hS hA ha hn hN hbytes hcells hslots hdg (fun q cA H1 hK1 hP1 hD1 hS1 => ?_)
  have e1 : cA = cy t := by
    have h1 := (hK1.2 6 (cA, ty) rfl).2
    exact cn_ra h1 (hK.2 t _ ht).2
  subst e1
  exact kk q H1 hP1 hD1 hS1
theorem cn_newq (hexec : p.tables.exec = Jvm.exec) (hb : c.code = cc) {own : String} {index : Nat} (hown : s.vm.findClass own = some m.cls) (hclink : (Cond.classLink own index RX4).before args s = true) (hover : va_AO RX4 s) (hK : va_K D vwCl (q_tys cy) s) (hP : va_P D vwCl ws H) (hD : va_D A ws) (hS : va_S A H0 H locs) (hA : ∀ q, H0.size ≤ q → A q) {n : Int32} {N' : Nat} (hn : ¬ n < 0) (hN : n.toNatClampNeg = N') (hbytes : N' * 4 ≤ 536870912) (hcells : cells + 1 ≤ R.cells) (hslots : slots + N' ≤ R.slots) (hdg : decode cc pc = .ok (.anewarray index, 3))
    (kk : ∀ (q : Nat) (H1 : Heap), va_P D vwCl (ws ++ [(q, .inl (cy 4, N', .inr (.inr (.inr (.inr (fun _ => none))))))]) H1 → va_D A (ws ++ [(q, .inl (cy 4, N', .inr (.inr (.inr (.inr (fun _ => none))))))]) → va_S A H0 H1 locs →
      W p l e R s m args below meth c H1 locs (cells + 1) (slots + N') Q (F0 m (pc + 3) ls (.ref q :: rest))) : W p l e R s m args below meth c H locs cells slots Q (F0 m pc ls (.int n :: rest)) := by
  refine va_newq hexec hb hown hclink hover hK hP hD hS hA hn hN hbytes hcells hslots hdg (fun q cA H1 hK1 hP1 hD1 hS1 => ?_)
  have e1 : cA = cy 4 := by
    have h1 := (hK1.2 6 (cA, .object RX4) rfl).2
    exact cn_ra h1 (hK.2 4 _ rfl).2
  subst e1
  exact kk q H1 hP1 hD1 hS1
theorem cn_pl {r : Nat → Nat} {f : Nat → va_E} {n : Nat} {e0 : va_E} : va_pl ((List.range n).map r) (vr_up f ((List.range n).map r) e0) = (List.range n).map (fun i => (r i, e0)) := by
  unfold va_pl
  rw [List.map_map]
  refine List.map_congr_left (fun i hi => ?_)
  show (r i, vr_up f ((List.range n).map r) e0 (r i)) = _
  rw [vr_up_in (List.mem_map.mpr ⟨i, hi, rfl⟩)]
theorem cn_mna (hexec : p.tables.exec = Jvm.exec) (hb : c.code = cc) {own : String} {index : Nat} (hown : s.vm.findClass own = some m.cls) (hclink : (Cond.classLink own index "[[I").before args s = true) (hover : va_AOA .int s) (harr : (Cond.arrayClass .int).before args s = true) (hK : va_K D vwCl (q_tys cy) s) (hP : va_P D vwCl ws H) (hD : va_D A ws) (hS : va_S A H0 H locs) (hA : ∀ q, H0.size ≤ q → A q) {n k : Int32} {N' K' : Nat} (hn : ¬ n < 0) (hk : ¬ k < 0) (hN : n.toNatClampNeg = N') (hM : k.toNatClampNeg = K') (hb1 : N' * 4 ≤ 536870912) (hb2 : K' * 4 ≤ 536870912) (hcells : cells + (1 + N') ≤ R.cells) (hslots : slots + (N' + N' * K') ≤ R.slots) (hdg : decode cc pc = .ok (.multianewarray index 2, 4))
    (kk : ∀ (q : Nat) (r : Nat → Nat) (H1 : Heap), va_P D vwCl ((ws ++ [(q, .inl (cy 5, N', .inr (.inr (.inr (.inr (fun i => if i < N' then some (r i) else none))))))]) ++ (List.range N').map (fun i => (r i, .inl (cy 0, K', .inl (fun _ => 0))))) H1 → va_D A ((ws ++ [(q, .inl (cy 5, N', .inr (.inr (.inr (.inr (fun i => if i < N' then some (r i) else none))))))]) ++ (List.range N').map (fun i => (r i, .inl (cy 0, K', .inl (fun _ => 0))))) → va_S A H0 H1 locs →
      W p l e R s m args below meth c H1 locs (cells + 1 + N') (slots + N' + N' * K') Q (F0 m (pc + 4) ls (.ref q :: rest))) : W p l e R s m args below meth c H locs cells slots Q (F0 m pc ls (.int k :: .int n :: rest)) := by
  have hP0 : va_P D vwCl (ws ++ va_pl [] (fun _ => .inr (0, []))) H := by
    show va_P D vwCl (ws ++ []) H
    rw [List.append_nil]
    exact hP
  have hD0 : va_D A (ws ++ va_pl [] (fun _ => .inr (0, []))) := by
    show va_D A (ws ++ [])
    rw [List.append_nil]
    exact hD
  refine va_mna (X := ws) (L := []) (f := fun _ => .inr (0, [])) (ty := .int) (cy := cy 0) (z := (K', .inl (fun _ => 0))) hexec hb hown hclink hover harr (hK.2 0 _ rfl).2 hK hP0 hD0 hS hA hn hk hN hM hb1 hb2 (by omega) rfl rfl hcells hslots (fun c => by
    rw [vp_cell_i]
    unfold Multi.innerC arrV
    congr 1
    refine Array.ext (by simp) (fun i h1 h2 => ?_)
    simp [defaultValue]) hdg (fun q r cA H1 g1 g2 hK1 hP1 hD1 hS1 => ?_)
  have e1 : cA = cy 5 := by
    have h1 := (hK1.2 6 (cA, .array .int) rfl).2
    exact cn_ra h1 (hK.2 5 _ rfl).2
  subst e1
  rw [List.nil_append, cn_pl] at hP1 hD1
  exact kk q r H1 hP1 hD1 hS1
/-- references of an array, said otherwise -/
theorem cn_fix {cA : ClassId} {n q0 : Nat} {f g : Nat → Option Nat} (hP : va_P D vwCl ws H) (ha : ws[q0]? = some (a, .inl (cA, n, .inr (.inr (.inr (.inr f)))))) (hfg : ∀ j : Nat, j < n → f j = g j) : va_P D vwCl (ws.set q0 (a, .inl (cA, n, .inr (.inr (.inr (.inr g)))))) H := by
  intro k q hk
  by_cases c : q0 = k
  · subst c
    rw [List.getElem?_set_self (List.getElem?_eq_some_iff.mp ha).1] at hk
    cases hk
    have := hP q0 _ ha
    show H[a]? = some (vp_cell cA (n, .inr (.inr (.inr (.inr g)))))
    have h2 : H[a]? = some (vp_cell cA (n, .inr (.inr (.inr (.inr f))))) := this
    rw [h2, vp_cell_q, vp_cell_q]
    congr 1
    unfold arrV
    congr 1
    refine Array.ext (by simp) (fun i h1 h2 => ?_)
    simp only [Array.getElem_ofFn]
    rw [hfg i (by simpa using h1)]
  · rw [List.getElem?_set_ne c] at hk
    exact hP k q hk
/-- a constructor's call of a method of its object -/
theorem cn_call {y : MethodName} {own : String} {bytes : ByteArray} {nL maxL i n : Nat} {rm : Room} {sp : QP} {T : Int → Option QS} {N : List Int} {ad : Int → Nat} {Z : State → Prop} (hexec : p.tables.exec = Jvm.exec) (hb : c.code = cc) (hml : c.maxLocals = nL) (hown : s.vm.findClass own = some m.cls) (hts : ∀ w ∈ q_tb, w.before args s = true) (hK : va_K D vwCl (q_tys cy) s) (hZok : q_Zok (q_A N ad) Z) (hz : Z s) (hzk : ∀ U : State, s.WarmedH U.vm → Z U) (hC : q_Ct l T N ad D cy Z y bytes maxL none rm sp) (hw : q_wok T N) (hm : Cond.code y bytes maxL none ∈ q_tb) (h1 : Cond.methodLink own i y ∈ q_tb) (h2 : Cond.instanceMethod y ∈ q_tb) (h4 : Cond.selects y.cls y y ∈ q_tb) (h3 : Cond.initialized y.cls ∈ q_tb)
    (hd : y.cls ≠ "java/lang/invoke/MethodHandle" ∧ y.cls ≠ "java/lang/invoke/VarHandle" ∧ (parseMethodDescriptor y.desc).map (fun d => d.parameters.length) = some n) (hc : rm.cells = 0 ∧ rm.slots = 0) (hR : rm.frames + 1 ≤ R.frames ∧ 8 + (maxL + 11) + rm.locals ≤ R.locals) (hcs : cells ≤ R.cells ∧ slots ≤ R.slots)
    {rA : List QV} {b : Int} {ci : Nat} {ks : List QK} {qc : vw_C} {μ μ' : QM} (hTb : T b = some (.inl (ci, ks))) (hqc : vwCl[ci]? = some qc) (hcls : qc.1 = y.cls) (hrA : rA.length = n) (hsp : sp (rA ++ [.inr (.inr b)]) μ (fun o μ2 => o = none ∧ μ2 = μ'))
    (hsz : ls.size = nL) (hcat : (rest.map fun v => v.category).sum ≤ 8) (hdg : decode cc pc = .ok (.invokevirtual i, 3)) {wr : va_W} (isC isR : List Nat) (hCs : isC.map (fun i => ws[i]?) = (q_ws T N ad cy μ).map some) (hRs : isR.map (fun i => ws[i]?) = wr.map some) (hnC : va_nd isC = true) (hn : va_nd isR = true) (hdis : ∀ i ∈ isR, i ∉ isC)
    (hP : va_P D vwCl ws H) (hD : va_D A ws) (hS : va_S A s.heap H locs) (hA : ∀ q, s.heap.size ≤ q → A q)
    (kk : ∀ (H1 : Heap) (locs1 : List Loc), va_P D vwCl (wr ++ q_ws T N ad cy μ') H1 → va_D A (wr ++ q_ws T N ad cy μ') → va_S A s.heap H1 locs1 → W p l e R s m args below meth c H1 locs1 cells slots Q (F0 m (pc + 3) ls rest)) : W p l e R s m args below meth c H locs cells slots Q (F0 m pc ls (rA.map (q_cv ad) ++ .ref (ad b) :: rest)) := by
  have hCf : isC.filterMap (fun i => ws[i]?) = q_ws T N ad cy μ := by
    have h := congrArg (List.filterMap id) hCs
    rw [List.filterMap_map, List.filterMap_map] at h
    simpa using h
  have hPc : va_P D vwCl (q_ws T N ad cy μ) H := hP.sub isC hCf
  have hDc0 : va_D A (q_ws T N ad cy μ) := hD.sub isC hnC hCs
  have hmem : ∀ (k : Nat) (q : Nat × va_E), (q_ws T N ad cy μ)[k]? = some q → q_A N ad q.1 := fun k q hk => by
    unfold q_ws at hk
    rw [List.getElem?_map] at hk
    cases hn : N[k]? with
    | none => rw [hn] at hk; cases hk
    | some a =>
      rw [hn] at hk
      cases hk
      exact ⟨a, List.mem_of_getElem? hn, rfl⟩
  have hDc : va_D (q_A N ad) (q_ws T N ad cy μ) := ⟨hDc0.1, hmem⟩
  have hqA : ∀ q, q_A N ad q → va_A (q_ws T N ad cy μ) H.size q := fun q hq => by
    obtain ⟨a, ha, rfl⟩ := hq
    obtain ⟨k, hk⟩ := List.getElem?_of_mem ha
    exact Or.inl ⟨k, q_ent ad cy μ a (T a), by unfold q_ws; rw [List.getElem?_map, hk]; rfl⟩
  have hFc := va_free (wc := q_ws T N ad cy μ) hD hS hA isC hCs
  have hM := hC (rA ++ [.inr (.inr b)]) μ _ hsp
  obtain ⟨hbN, hb0⟩ := hw.2.1 b _ hTb
  obtain ⟨k9, hk9⟩ := List.getElem?_of_mem hbN
  have hcell : (q_ws T N ad cy μ)[k9]? = some (ad b, q_ent ad cy μ b (some (.inl (ci, ks)))) := by
    unfold q_ws
    rw [List.getElem?_map, hk9]
    show some (ad b, q_ent ad cy μ b (T b)) = _
    rw [hTb]
  have cw := callB_of (R := R) (own := own) (index := i) (mc := 0) (ms := 0) n hts (q_goodW hm) rfl hc.1 hc.2 (hts _ h3) (hts _ h1) hd hR
  have hrev : (rA ++ [(.inr (.inr b) : QV)]).reverse.map (q_cv ad) = .ref (ad b) :: rA.reverse.map (q_cv ad) := by rw [List.reverse_append, List.reverse_singleton, List.singleton_append, List.map_cons, q_refv hb0]
  have hp : PreV s H y.cls (ad b) (q_Pc T N ad D cy Z (rA ++ [.inr (.inr b)]) μ) (rA.reverse.map (q_cv ad)) := ⟨q_blind hZok, by rw [← hcls]; exact va_recv hK hPc hqc hcell, fun U hU hW => by
    rw [← hrev]
    exact ⟨rfl, by rw [hU]; exact hPc, va_K.moved hW.alike hK, hDc, hzk U hW⟩⟩
  have hrun := va_runV (l := l) (e := e) (R := R) (below := below) (meth := meth) (H := H) (locs := locs) (cells := cells) (slots := slots) (g := F0 m pc ls (rA.map (q_cv ad) ++ .ref (ad b) :: rest)) (rest := rest) ⟨hexec, hb, hml, hown, hts⟩ hM ⟨cw, hts _ h2, hts _ h4⟩ hp rfl (by rw [List.length_map, List.length_reverse]; exact hrA) hsz (by
    show rA.map (q_cv ad) ++ .ref (ad b) :: rest = _
    rw [← List.map_reverse, List.reverse_reverse]) (by
    have e9 : (F0 m pc ls (rA.map (q_cv ad) ++ .ref (ad b) :: rest)).monitorRoom = 0 := rfl
    rw [e9]
    omega) hdg hcs
  intro U hU X
  obtain ⟨v, st₀, t, T', L', g0, X', hL', g1, g2, ⟨⟨o, μ2, hv, ⟨ho, hμ⟩, hP'⟩, hz9, hkp⟩, stp⟩ := hrun U hU X
  subst ho
  subst hμ
  have hv : v = none := Outcome.returned.inj hv
  subst hv
  rw [g0] at hz9 hkp
  have hS' : va_S A s.heap T'.heap (locs ++ L') := ⟨Nat.le_trans hS.1 (by rw [g1]; exact hz9), fun q h1 h2 => by rw [g1, hkp q (Nat.lt_of_lt_of_le h1 hS.1) (fun z => h2 (hFc q (hqA q z)))]; exact hS.2.1 q h1 h2, fun q hq => by
    rcases List.mem_append.mp hq with h | h
    · exact hS.2.2 q h
    · exact hFc _ (hqA _ (hL' q h))⟩
  have hD1 : va_D (va_A (q_ws T N ad cy μ) H.size) (q_ws T N ad cy μ2) := by
    refine ⟨(q_wsD (μ' := μ2) hDc).1, fun k q hk => hqA _ ?_⟩
    exact (q_wsD (μ' := μ2) hDc).2 k q hk
  obtain ⟨hPj, hDj⟩ := va_join (wr := wr) (w1 := q_ws T N ad cy μ2) (H1 := T'.heap) hP hD isC isR hCs hRs hn hdis (fun q h1 h2 => by rw [g1]; exact hkp q h1 (fun z => h2 (hqA q z))) hFc (by rw [g1]; exact hP') hD1
  obtain ⟨t2, a1, b1⟩ := kk T'.heap (locs ++ L') hPj hDj hS' T' rfl X'
  exact ⟨t2, stp t2 a1, b1⟩
end CN

