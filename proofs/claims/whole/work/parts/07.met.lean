/-! from the conditions to contracts, and from contracts to calls -/
def q_A (N : List Int) (ad : Int → Nat) : Nat → Prop := fun q => ∃ a ∈ N, ad a = q
/-- what else is said of the heap outside (texts), and that it lasts -/
def q_Zok (A : Nat → Prop) (Z : State → Prop) : Prop := (∀ s U : State, Z s → s.WarmedH U.vm → s.heap.size ≤ U.heap.size → (∀ q : Nat, q < s.heap.size → ¬ A q → U.heap[q]? = s.heap[q]?) → Z U) ∧ ∀ s U : State, Z s → U.vm = s.vm → U.heap = s.heap → Z U
def q_Pc (T : Int → Option QS) (N : List Int) (ad : Int → Nat) (D : va_G) (cy : Nat → ClassId) (Z : State → Prop) (ra : List QV) (μ : QM) : Array Value → State → Prop := va_Pc (ra.reverse.map (q_cv ad)) (fun U => va_P D vwCl (q_ws T N ad cy μ) U.heap ∧ va_K D vwCl (q_tys cy) U ∧ va_D (q_A N ad) (q_ws T N ad cy μ) ∧ Z U)
/-- a method's contract: from any memory and arguments of which its words hold -/
def q_Ct (l : Launch) (T : Int → Option QS) (N : List Int) (ad : Int → Nat) (D : va_G) (cy : Nat → ClassId) (Z : State → Prop) (y : MethodName) (cc : ByteArray) (nL : Nat) (ret : Option FieldType) (rm : Room) (sp : QP) : Prop := ∀ (ra : List QV) (μ : QM) (K : Option QV → QM → Prop), sp ra μ K → Met l y (.code y cc nL ret :: q_tb) rm (q_Pc T N ad D cy Z ra μ) (q_Qc T N ad D cy (q_A N ad) K) 0 0 (q_A N ad)
def q_wok (T : Int → Option QS) (N : List Int) : Prop := (∀ (i j : Nat) (a : Int), N[i]? = some a → N[j]? = some a → i = j) ∧ (∀ (a : Int) (sh : QS), T a = some sh → a ∈ N ∧ 0 ≤ a) ∧ (∀ (a : Int) (ci : Nat) (ks : List QK) (q : vw_C), T a = some (.inl (ci, ks)) → vwCl[ci]? = some q → q_kok q ks)
theorem q_wsD {T : Int → Option QS} {N : List Int} {ad : Int → Nat} {cy : Nat → ClassId} {A : Nat → Prop} {μ μ' : QM} (h : va_D A (q_ws T N ad cy μ)) : va_D A (q_ws T N ad cy μ') := by
  have key : ∀ (k : Nat) (q : Nat × va_E), (q_ws T N ad cy μ')[k]? = some q → ∃ q0, (q_ws T N ad cy μ)[k]? = some q0 ∧ q0.1 = q.1 := by
    intro k q hk
    unfold q_ws at hk ⊢
    rw [List.getElem?_map] at hk ⊢
    cases hn : N[k]? with
    | none => rw [hn] at hk; cases hk
    | some a => rw [hn] at hk; cases hk; exact ⟨_, rfl, rfl⟩
  refine ⟨fun i j x y hi hj hxy => ?_, fun k q hk => ?_⟩
  · obtain ⟨x0, h1, h2⟩ := key i x hi
    obtain ⟨y0, h3, h4⟩ := key j y hj
    exact h.1 i j x0 y0 h1 h3 (h2.trans (hxy.trans h4.symm))
  · obtain ⟨q0, h1, h2⟩ := key k q hk
    rw [← h2]
    exact h.2 k q0 h1
/-! the locals at the entry -/
def q_sl : List QV → QL
  | [] => []
  | v :: t => some v :: (if q_ct v = 2 then none :: q_sl t else q_sl t)
def q_in0 (nL : Nat) (ra : List QV) : QL := q_sl ra.reverse ++ List.replicate (nL - (q_sl ra.reverse).length) none
theorem q_sln (ad : Int → Nat) : ∀ vs : List QV, (lg_sl (vs.map (q_cv ad))).length = (q_sl vs).length
  | [] => rfl
  | v :: t => by
    have ih := q_sln ad t
    show ((if (q_cv ad v).category = 2 then [Slot.val (q_cv ad v), Slot.second] else [Slot.val (q_cv ad v)]) ++ lg_sl (t.map (q_cv ad))).length = (some v :: (if q_ct v = 2 then none :: q_sl t else q_sl t)).length
    rw [List.length_append, ih, q_ctv]
    split
    · simp only [List.length_cons, List.length_nil]; omega
    · simp only [List.length_cons, List.length_nil]; omega
theorem q_lga : ∀ (ls : QL) (n i : Nat) (v : QV), q_lg (ls ++ List.replicate n none) i = some v → q_lg ls i = some v
  | [], n, i, v, h => by
    have : ∀ (n i : Nat), q_lg (List.replicate n none) i = none := by
      intro n
      induction n with
      | zero => intro i; rfl
      | succ n ih => intro i; cases i with
        | zero => rfl
        | succ i => exact ih i
    rw [List.nil_append, this] at h
    cases h
  | x :: t, n, 0, v, h => h
  | x :: t, n, i + 1, v, h => q_lga t n i v h
theorem q_sla (ad : Int → Nat) : ∀ (vs : List QV) (o i : Nat) (v : QV), q_lg (q_sl vs) i = some v → (o + i, q_cv ad v) ∈ lv_args o (vs.map (q_cv ad))
  | [], _, _, _, h => by cases h
  | w :: t, o, 0, v, h => by
    cases h
    exact List.mem_cons_self
  | w :: t, o, i + 1, v, h => by
    have h1 : q_lg (if q_ct w = 2 then none :: q_sl t else q_sl t) i = some v := h
    refine List.mem_cons_of_mem _ ?_
    show (o + (i + 1), q_cv ad v) ∈ lv_args (if (q_cv ad w).category = 2 then o + 2 else o + 1) (t.map (q_cv ad))
    rw [q_ctv]
    by_cases c : q_ct w = 2
    · rw [if_pos c] at h1 ⊢
      cases i with
      | zero => cases h1
      | succ i =>
        have := q_sla ad t (o + 2) i v h1
        rw [show o + 2 + i = o + (i + 1 + 1) by omega] at this
        exact this
    · rw [if_neg c] at h1 ⊢
      have := q_sla ad t (o + 1) i v h1
      rw [show o + 1 + i = o + (i + 1) by omega] at this
      exact this
theorem q_slS (ad : Int → Nat) {ra : List QV} {nL : Nat} (h : (q_sl ra.reverse).length ≤ nL) : lv_has ((lg_sl (ra.reverse.map (q_cv ad)) ++ List.replicate (nL - (lg_sl (ra.reverse.map (q_cv ad))).length) Slot.unset).toArray) nL (q_prs ad (q_in0 nL ra)) := by
  have h1 := lv_entry (ra.reverse.map (q_cv ad)) (n := nL) (by rw [q_sln]; exact h)
  refine ⟨h1.1, h1.2.1, fun q hq => h1.2.2 q ?_⟩
  obtain ⟨v, e1, e2⟩ := q_mem2 hq
  have := q_sla ad ra.reverse 0 q.1 v (q_lga _ _ _ _ e1)
  rw [Nat.zero_add, ← e2] at this
  exact this
section QM7
variable (l : Launch) (T : Int → Option QS) (N : List Int) (ad : Int → Nat) (D : va_G) (cy : Nat → ClassId) (Z : State → Prop)
/-- the machine in a body -/
abbrev q_SB (Rt : Option QV → QM → Prop) (p : Program) (e : Env) (R : Room) (s : State) (m : MethodId) (args : Array Value) (below : List Frame) (meth : Method) (c : Code) (nL : Nat) : Nat → QL → List QV → QM → Prop := q_SW p l e R s m args below meth c (q_A N ad) s.heap T N ad D cy nL (MQ below (q_Qc T N ad D cy (q_A N ad) Rt) args s 0 0 (q_A N ad))
/-- a call of the instruction ins goes by its words -/
def q_CR (own : String) (cc : ByteArray) (nL : Nat) (R : Room) (G : Nat × QP) (ins : Instr) : Prop := ∀ (Rt : Option QV → QM → Prop) (p : Program) (e : Env) (s : State) (m : MethodId) (args : Array Value) (below : List Frame) (meth : Method) (c : Code), q_Fix p s m args meth c T N D cy own cc → c.maxLocals = nL → Z s →
  ∀ (pc : Nat) (ls : QL) (st : List QV) (μ : QM) (K : Option QV → QM → Prop), decode cc pc = .ok (ins, 3) → G.1 ≤ st.length → q_cats (st.drop G.1) ≤ 8 → G.2 (st.take G.1) μ K → (∀ o μ', K o μ' → q_SB l T N ad D cy Rt p e R s m args below meth c nL (pc + 3) ls (o.toList ++ st.drop G.1) μ') → q_SB l T N ad D cy Rt p e R s m args below meth c nL pc ls st μ
/-- a text is laid on the stack -/
def q_LR (own : String) (cc : ByteArray) (nL : Nat) (R : Room) (v : QV) (i : Nat) : Prop := ∀ (Rt : Option QV → QM → Prop) (p : Program) (e : Env) (s : State) (m : MethodId) (args : Array Value) (below : List Frame) (meth : Method) (c : Code), q_Fix p s m args meth c T N D cy own cc → c.maxLocals = nL → Z s →
  ∀ (pc : Nat) (ls : QL) (st : List QV) (μ : QM), decode cc pc = .ok (.ldc i, 2) → q_SB l T N ad D cy Rt p e R s m args below meth c nL (pc + 2) ls (v :: st) μ → q_SB l T N ad D cy Rt p e R s m args below meth c nL pc ls st μ
end QM7
/-- what a body's proof may use: nothing of the machine -/
def q_Rule (cc : ByteArray) (nL : Nat) (u : QU) (fl : Nat → Nat × Nat) (ld : Nat → QV) (Γ : Nat → Nat × QP) (T : Int → Option QS) (rk : Nat) (sk : Nat → Option (List QE)) (Rt : Option QV → QM → Prop) (S : Nat → QL → List QV → QM → Prop) : Prop := ∀ (n : Nat) (b : List QE) (pc : Nat) (ls : QL) (st : List QV) (μ : QM), q_ok cc nL u pc b = true → q_vc fl ld Γ T rk Rt sk S n b pc ls st μ → S pc ls st μ
def q_Body (cc : ByteArray) (nL : Nat) (u : QU) (fl : Nat → Nat × Nat) (ld : Nat → QV) (Γ : Nat → Nat × QP) (T : Int → Option QS) (rk : Nat) (sk : Nat → Option (List QE)) (sp : QP) : Prop := ∀ (S : Nat → QL → List QV → QM → Prop) (Rt : Option QV → QM → Prop), q_Rule cc nL u fl ld Γ T rk sk Rt S → ∀ (ra : List QV) (μ : QM), sp ra μ Rt → (q_sl ra.reverse).length ≤ nL ∧ S 0 (q_in0 nL ra) [] μ
theorem q_good : ∀ w ∈ q_tb, (w.onTables && w.keeps) = true ∨ ∃ ty, w = .arrayClass ty := fun w hw => good_of_word (List.mem_filter.mp hw).2
section QM8
variable {l : Launch} {T : Int → Option QS} {N : List Int} {ad : Int → Nat} {D : va_G} {cy : Nat → ClassId} {Z : State → Prop}
theorem q_met {y : MethodName} {own : String} {cc : ByteArray} {nL : Nat} {ret : Option FieldType} {rm : Room} {sp : QP} {u : QU} {fl : Nat → Nat × Nat} {ld : Nat → QV} {Γ : Nat → Nat × QP} {rk : Nat} {sk : Nat → Option (List QE)}
    (hw : q_wok T N) (hy : plainName y.cls = true) (ho : y.cls = own) (hf : q_fok own fl u.1) (hg : q_fokP own fl u.2.1) (hld : q_ldk own ld u.2.2.1) (hr : q_rto rk ret) (hsk : ∀ (pc : Nat) (b : List QE), sk pc = some b → q_ok cc nL u pc b = true)
    (hL : ∀ i ∈ u.2.2.2.1, q_LR l T N ad D cy Z own cc nL rm (ld i) i) (hV : ∀ i ∈ u.2.2.2.2.1, q_CR l T N ad D cy Z own cc nL rm (Γ i) (.invokevirtual i)) (hS : ∀ i ∈ u.2.2.2.2.2.1, q_CR l T N ad D cy Z own cc nL rm (Γ i) (.invokestatic i)) (hI : ∀ i ∈ u.2.2.2.2.2.2, q_CR l T N ad D cy Z own cc nL rm (Γ i) (.invokespecial i))
    (hB : q_Body cc nL u fl ld Γ T rk sk sp) : q_Ct l T N ad D cy Z y cc nL ret rm sp := by
  intro ra μ K hsp
  refine Met.ofW (cc := cc) (maxL := nL) (ret := ret) hy rfl ?_
  intro p e s m args below meth c s₁ B hml hv
  obtain ⟨rfl, hP, hK, hD, hZ⟩ := hv
  have hts0 := atoms_spec (ws := .code y cc nL ret :: q_tb) B.pre
  have hown : s.vm.findClass own = some m.cls := by rw [← ho]; exact findClass_of_methodNamed B.named
  have F : q_Fix p s m (ra.reverse.map (q_cv ad)).toArray meth c T N D cy own cc := ⟨B.exec, B.bytes, hown, fun w h => hts0 w (List.mem_cons_of_mem _ h), hK, B.notSynchronized, hw.1, hw.2.1, hw.2.2⟩
  have rule : q_Rule cc nL u fl ld Γ T rk sk K (q_SB l T N ad D cy K p e rm s m (ra.reverse.map (q_cv ad)).toArray below meth c nL) := by
    intro n
    induction n with
    | zero => intro b pc ls st μ _ h; exact h.elim
    | succ n ih =>
      intro b pc ls st μ hok h
      cases b with
      | nil =>
        have h' : (match sk pc with | none => q_SB l T N ad D cy K p e rm s m (ra.reverse.map (q_cv ad)).toArray below meth c nL pc ls st μ | some b => q_vc fl ld Γ T rk K sk (q_SB l T N ad D cy K p e rm s m (ra.reverse.map (q_cv ad)).toArray below meth c nL) n b pc ls st μ) := h
        cases hs : sk pc with
        | none => rw [hs] at h'; exact h'
        | some b => rw [hs] at h'; exact ih b pc ls st μ (hsk pc b hs) h'
      | cons x r =>
        obtain ⟨ins, nx, tg⟩ := x
        have hr' : q_rto rk meth.sig.returnType := by rw [B.returns]; exact hr
        exact q_stpS F hf hg hld hr' (fun i hi pc ls st μ hd k => hL i hi K p e s m _ below meth c F hml hZ pc ls st μ hd k) (fun i hi pc ls st μ K9 h1 h2 h3 h4 h5 => hV i hi K p e s m _ below meth c F hml hZ pc ls st μ K9 h1 h2 h3 h4 h5) (fun i hi pc ls st μ K9 h1 h2 h3 h4 h5 => hS i hi K p e s m _ below meth c F hml hZ pc ls st μ K9 h1 h2 h3 h4 h5) (fun i hi pc ls st μ K9 h1 h2 h3 h4 h5 => hI i hi K p e s m _ below meth c F hml hZ pc ls st μ K9 h1 h2 h3 h4 h5) (q_vc fl ld Γ T rk K sk (q_SB l T N ad D cy K p e rm s m (ra.reverse.map (q_cv ad)).toArray below meth c nL) n) (fun b pc ls st μ => ih b pc ls st μ) pc ins nx tg r ls st μ hok h
  obtain ⟨hlen, hS0⟩ := hB _ K rule ra μ hsp
  rw [lg_entry_eq]
  refine hS0 ?_ s.heap [] _ hP hD va_S.rf (q_slS ad hlen)
  unfold q_in0
  rw [List.length_append, List.length_replicate]
  omega
/-! calls -/
theorem q_blind {ra : List QV} {μ : QM} (hZ : q_Zok (q_A N ad) Z) : FrameBlind (q_Pc T N ad D cy Z ra μ) := fun a U g mk q => by
  obtain ⟨q0, qP, qK, qD, qZ⟩ := q
  exact ⟨q0, qP, va_K.moved (u := U) (U := U.calling g mk a) (Vm.Alike.refl U.vm) qK, qD, hZ.2 U _ qZ rfl rfl⟩
theorem q_back {Rt : Option QV → QM → Prop} {p : Program} {e : Env} {R : Room} {s : State} {m : MethodId} {args : Array Value} {below : List Frame} {meth : Method} {c : Code} {nL : Nat} {H : Heap} {locs : List Loc} {la : Array Slot} {pc : Nat} {ls : QL} {st rest : List QV} {μ : QM} {K : Option QV → QM → Prop} {av : Array Value}
    (hr : va_Run p l e R s m args below meth c H locs 0 0 0 0 (F0 m pc la (st.map (q_cv ad))) (rest.map (q_cv ad)) (q_Qc T N ad D cy (q_A N ad) K av) (q_A N ad)) (hn : ls.length = nL) (hD : va_D (q_A N ad) (q_ws T N ad cy μ)) (hS : va_S (q_A N ad) s.heap H locs) (hl : lv_has la nL (q_prs ad ls))
    (hk : ∀ o μ', K o μ' → q_SB l T N ad D cy Rt p e R s m args below meth c nL (pc + 3) ls (o.toList ++ rest) μ') : W p l e R s m args below meth c H locs 0 0 (MQ below (q_Qc T N ad D cy (q_A N ad) Rt) args s 0 0 (q_A N ad)) (F0 m pc la (st.map (q_cv ad))) := by
  intro U hU X
  obtain ⟨v, st₀, t, T', L, h0, X', hL, e1, e2, ⟨⟨o, μ', hv, hKo, hP'⟩, hz, hkp⟩, stp⟩ := hr U hU X
  have hv : v = o.map (q_cv ad) := Outcome.returned.inj hv
  subst hv
  rw [h0] at hz hkp
  have hS' : va_S (q_A N ad) s.heap T'.heap (locs ++ L) := ⟨Nat.le_trans hS.1 (by rw [e1]; exact hz), fun q h1 h2 => by rw [e1, hkp q (Nat.lt_of_lt_of_le h1 hS.1) h2]; exact hS.2.1 q h1 h2, fun q hq => by
    rcases List.mem_append.mp hq with h | h
    · exact hS.2.2 q h
    · exact hL q h⟩
  obtain ⟨t2, a1, b1⟩ := hk o μ' hKo hn T'.heap (locs ++ L) la (by rw [e1]; exact hP') (q_wsD hD) hS' hl T' rfl X'
  refine ⟨t2, stp t2 ?_, b1⟩
  have e9 : (o.toList ++ rest).map (q_cv ad) = (o.map (q_cv ad)).toList ++ rest.map (q_cv ad) := by cases o <;> rfl
  rw [e9] at a1
  exact a1
theorem q_pre {s : State} {m : MethodId} {args : Array Value} {meth : Method} {c : Code} {p : Program} {own : String} {cc : ByteArray} {ra : List QV} {μ : QM} {H : Heap} {locs : List Loc} (hZok : q_Zok (q_A N ad) Z) (F : q_Fix p s m args meth c T N D cy own cc) (hZ : Z s) (hP : va_P D vwCl (q_ws T N ad cy μ) H) (hD : va_D (q_A N ad) (q_ws T N ad cy μ)) (hS : va_S (q_A N ad) s.heap H locs) : ∀ U : State, U.heap = H → s.WarmedH U.vm → q_Pc T N ad D cy Z ra μ (ra.reverse.map (q_cv ad)).toArray U := by
  intro U hU hW
  exact ⟨rfl, by rw [hU]; exact hP, va_K.moved hW.alike F.2.2.2.2.1, hD, hZok.1 s U hZ hW (by rw [hU]; exact hS.1) (fun q h1 h2 => by rw [hU]; exact hS.2.1 q h1 h2)⟩
theorem q_goodW {y : MethodName} {bytes : ByteArray} {maxL : Nat} {ret : Option FieldType} (h : Cond.code y bytes maxL ret ∈ q_tb) : GoodIn q_tb (.code y bytes maxL ret :: q_tb) := by
  intro w hw
  rcases List.mem_cons.mp hw with rfl | hw
  · exact ⟨h, q_good _ h⟩
  · exact ⟨hw, q_good _ hw⟩
theorem q_roomS {m : MethodId} {pc : Nat} {la : Array Slot} {x : List Value} {rest : List QV} (h : q_cats rest ≤ 8) : 2 * (F0 m pc la x).monitorRoom + ((rest.map (q_cv ad)).map fun v => v.category).sum ≤ 8 := lv_room (by rw [q_catsS]; exact h)
theorem q_split {st : List QV} {n : Nat} : st.map (q_cv ad) = ((st.take n).map (q_cv ad)) ++ (st.drop n).map (q_cv ad) := by rw [← List.map_append, List.take_append_drop]
/-- a static method, of any class -/
theorem q_crS {y : MethodName} {own : String} {cc bytes : ByteArray} {nL maxL i n : Nat} {ret : Option FieldType} {R rm : Room} {sp : QP} (hZok : q_Zok (q_A N ad) Z) (hC : q_Ct l T N ad D cy Z y bytes maxL ret rm sp) (hm : Cond.code y bytes maxL ret ∈ q_tb) (h1 : Cond.methodLink own i y ∈ q_tb) (h2 : Cond.static y ∈ q_tb) (h3 : Cond.initialized y.cls ∈ q_tb)
    (hd : y.cls ≠ "java/lang/invoke/MethodHandle" ∧ y.cls ≠ "java/lang/invoke/VarHandle" ∧ (parseMethodDescriptor y.desc).map (fun d => d.parameters.length) = some n) (hc : rm.cells = 0 ∧ rm.slots = 0) (hR : rm.frames + 1 ≤ R.frames ∧ 8 + (maxL + 11) + rm.locals ≤ R.locals) : q_CR l T N ad D cy Z own cc nL R (n, sp) (.invokestatic i) := by
  intro Rt p e s m args below meth c F hml hZ pc ls st μ K hdg hlen hcat hsp hk hn H locs la hP hD hS hl
  have hts := F.2.2.2.1
  have hM := hC (st.take n) μ K hsp
  have cw := callB_of (R := R) (own := own) (index := i) (mc := 0) (ms := 0) n hts (q_goodW hm) rfl hc.1 hc.2 (hts _ h3) (hts _ h1) hd hR
  have hp : PreS s H (q_Pc T N ad D cy Z (st.take n) μ) ((st.take n).reverse.map (q_cv ad)) := ⟨q_blind hZok, q_pre hZok F hZ hP hD hS⟩
  exact q_back (va_runS (rest := (st.drop n).map (q_cv ad)) ⟨F.1, F.2.1, hml, F.2.2.1, hts⟩ hM ⟨cw, hts _ h2⟩ hp rfl (by rw [List.length_map, List.length_reverse, List.length_take]; omega) hl.1 (by rw [← List.map_reverse, List.reverse_reverse]; exact q_split) (q_roomS hcat) hdg ⟨Nat.zero_le _, Nat.zero_le _⟩) hn hD hS hl hk
theorem q_crSN {y : MethodName} {own host : String} {cc bytes : ByteArray} {nL maxL i n : Nat} {ret : Option FieldType} {R rm : Room} {sp : QP} (hZok : q_Zok (q_A N ad) Z) (hC : q_Ct l T N ad D cy Z y bytes maxL ret rm sp) (hm : Cond.code y bytes maxL ret ∈ q_tb) (h1 : ∀ s : State, Z s → va_Nw (.methodLinkNest own i y host) s) (h2 : Cond.static y ∈ q_tb) (h3 : Cond.initialized y.cls ∈ q_tb)
    (hd : y.cls ≠ "java/lang/invoke/MethodHandle" ∧ y.cls ≠ "java/lang/invoke/VarHandle" ∧ (parseMethodDescriptor y.desc).map (fun d => d.parameters.length) = some n) (hc : rm.cells = 0 ∧ rm.slots = 0) (hR : rm.frames + 1 ≤ R.frames ∧ 8 + (maxL + 11) + rm.locals ≤ R.locals) : q_CR l T N ad D cy Z own cc nL R (n, sp) (.invokestatic i) := by
  intro Rt p e s m args below meth c F hml hZ pc ls st μ K hdg hlen hcat hsp hk hn H locs la hP hD hS hl
  have hts := F.2.2.2.1
  have hM := hC (st.take n) μ K hsp
  have cw := va_cnB (R := R) (own := own) (index := i) (mc := 0) (ms := 0) n hts (q_goodW hm) rfl hc.1 hc.2 (h1 s hZ) (hts _ h3) hd hR
  have hp : PreS s H (q_Pc T N ad D cy Z (st.take n) μ) ((st.take n).reverse.map (q_cv ad)) := ⟨q_blind hZok, q_pre hZok F hZ hP hD hS⟩
  exact q_back (va_runSN (rest := (st.drop n).map (q_cv ad)) ⟨F.1, F.2.1, hml, F.2.2.1, hts⟩ hM ⟨cw, hts _ h2, trivial⟩ hp rfl (by rw [List.length_map, List.length_reverse, List.length_take]; omega) hl.1 (by rw [← List.map_reverse, List.reverse_reverse]; exact q_split) (q_roomS hcat) hdg ⟨Nat.zero_le _, Nat.zero_le _⟩) hn hD hS hl hk
/-- what a method's words say of its receiver -/
def q_rcv (T : Int → Option QS) (C : String) (sp : QP) : Prop := ∀ (ra : List QV) (μ : QM) (K : Option QV → QM → Prop), sp ra μ K → ∃ (rA : List QV) (b : Int) (ci : Nat) (ks : List QK) (q : vw_C), ra = rA ++ [.inr (.inr b)] ∧ T b = some (.inl (ci, ks)) ∧ vwCl[ci]? = some q ∧ q.1 = C
theorem q_crV {y : MethodName} {own : String} {cc bytes : ByteArray} {nL maxL i n : Nat} {ret : Option FieldType} {R rm : Room} {sp : QP} (hZok : q_Zok (q_A N ad) Z) (hC : q_Ct l T N ad D cy Z y bytes maxL ret rm sp) (hrc : q_rcv T y.cls sp) (hm : Cond.code y bytes maxL ret ∈ q_tb) (h1 : Cond.methodLink own i y ∈ q_tb) (h2 : Cond.instanceMethod y ∈ q_tb) (h4 : Cond.selects y.cls y y ∈ q_tb) (h3 : Cond.initialized y.cls ∈ q_tb)
    (hd : y.cls ≠ "java/lang/invoke/MethodHandle" ∧ y.cls ≠ "java/lang/invoke/VarHandle" ∧ (parseMethodDescriptor y.desc).map (fun d => d.parameters.length) = some n) (hc : rm.cells = 0 ∧ rm.slots = 0) (hR : rm.frames + 1 ≤ R.frames ∧ 8 + (maxL + 11) + rm.locals ≤ R.locals) : q_CR l T N ad D cy Z own cc nL R (n + 1, sp) (.invokevirtual i) := by
  intro Rt p e s m args below meth c F hml hZ pc ls st μ K hdg hlen hcat hsp hk hn H locs la hP hD hS hl
  have hts := F.2.2.2.1
  have hM := hC (st.take (n + 1)) μ K hsp
  obtain ⟨rA, b, ci, ks, q, e1, e2, e3, e4⟩ := hrc _ _ _ hsp
  have cw := callB_of (R := R) (own := own) (index := i) (mc := 0) (ms := 0) n hts (q_goodW hm) rfl hc.1 hc.2 (hts _ h3) (hts _ h1) hd hR
  obtain ⟨h0, k9, -, hw9⟩ := q_cell (ad := ad) F e2
  have hrev : (st.take (n + 1)).reverse.map (q_cv ad) = .ref (ad b) :: rA.reverse.map (q_cv ad) := by rw [e1, List.reverse_append, List.reverse_singleton, List.singleton_append, List.map_cons, q_refv h0]
  have hlA : rA.length = n := by
    have := congrArg List.length e1
    rw [List.length_take, List.length_append, List.length_singleton] at this
    omega
  have hp : PreV s H y.cls (ad b) (q_Pc T N ad D cy Z (st.take (n + 1)) μ) (rA.reverse.map (q_cv ad)) := ⟨q_blind hZok, by rw [← e4]; exact va_recv F.2.2.2.2.1 hP e3 (hw9 μ), fun U hU hW => by rw [← hrev]; exact q_pre hZok F hZ hP hD hS U hU hW⟩
  exact q_back (va_runV (rest := (st.drop (n + 1)).map (q_cv ad)) ⟨F.1, F.2.1, hml, F.2.2.1, hts⟩ hM ⟨cw, hts _ h2, hts _ h4⟩ hp rfl (by rw [List.length_map, List.length_reverse]; exact hlA) hl.1 (by
    show st.map (q_cv ad) = _
    rw [q_split (n := n + 1), e1, ← List.map_reverse, List.reverse_reverse, List.map_append, List.map_singleton, q_refv h0, List.append_assoc]
    rfl) (q_roomS hcat) hdg ⟨Nat.zero_le _, Nat.zero_le _⟩) hn hD hS hl hk
end QM8
