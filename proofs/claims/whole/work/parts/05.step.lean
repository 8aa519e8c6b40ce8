/-! what q_stp says is enough: each instruction by the kit's row -/
/-- the machine at pc with these locals, this stack, this memory comes to Q -/
def q_SW (p : Program) (l : Launch) (e : Env) (R : Room) (s : State) (m : MethodId) (args : Array Value) (below : List Frame) (meth : Method) (c : Code) (A : Nat → Prop) (H0 : Heap) (T : Int → Option QS) (N : List Int) (ad : Int → Nat) (D : va_G) (cy : Nat → ClassId) (nL : Nat) (Q : State → Prop) (pc : Nat) (ls : QL) (st : List QV) (μ : QM) : Prop :=
  ls.length = nL → ∀ (H : Heap) (locs : List Loc) (la : Array Slot), va_P D vwCl (q_ws T N ad cy μ) H → va_D A (q_ws T N ad cy μ) → va_S A H0 H locs → lv_has la nL (q_prs ad ls) → W p l e R s m args below meth c H locs 0 0 Q (F0 m pc la (st.map (q_cv ad)))
def q_kt (sk : QK) (ty : FieldType) : Prop := match sk with
  | .inl 0 => ty = .int
  | .inl 1 => ty = .long
  | .inl 2 => ty = .boolean
  | .inl 3 => (∃ n, ty = .object n) ∨ ∃ t, ty = .array t
  | _ => True
def q_kok (q : vw_C) (ks : List QK) : Prop := ks.length = q.2.2 ∧ ∀ (k : Nat) (sk : QK), ks[k]? = some sk → ∃ ty, parseFieldDescriptor (q.2.1 k).2.2.1 = some ty ∧ q_kt sk ty
/-- what is fixed in a body -/
def q_Fix (p : Program) (s : State) (m : MethodId) (args : Array Value) (meth : Method) (c : Code) (T : Int → Option QS) (N : List Int) (D : va_G) (cy : Nat → ClassId) (own : String) (cc : ByteArray) : Prop :=
  p.tables.exec = Jvm.exec ∧ c.code = cc ∧ s.vm.findClass own = some m.cls ∧ (∀ w ∈ q_tb, w.before args s = true) ∧ va_K D vwCl (q_tys cy) s ∧ meth.locks = false ∧
  (∀ (i j : Nat) (a : Int), N[i]? = some a → N[j]? = some a → i = j) ∧ (∀ (a : Int) (sh : QS), T a = some sh → a ∈ N ∧ 0 ≤ a) ∧ (∀ (a : Int) (ci : Nat) (ks : List QK) (q : vw_C), T a = some (.inl (ci, ks)) → vwCl[ci]? = some q → q_kok q ks)
/-- the fields' pool entries -/
def q_fok (own : String) (fl : Nat → Nat × Nat) (is : List Nat) : Prop := ∀ i ∈ is, ∃ q : vw_C, vwCl[(fl i).1]? = some q ∧ (fl i).2 < q.2.2 ∧ q.1 = (q.2.1 (fl i).2).1 ∧ Cond.fieldLink own i (q.2.1 (fl i).2).1 (q.2.1 (fl i).2).2.1 (q.2.1 (fl i).2).2.2.1 ∈ q_tb
def q_fokP (own : String) (fl : Nat → Nat × Nat) (is : List Nat) : Prop := ∀ i ∈ is, ∃ q : vw_C, vwCl[(fl i).1]? = some q ∧ (q.2.1 (fl i).2).2.2.2 = false
theorem q_cls {q : vw_C} (hq : q ∈ vwCl) : (∀ w ∈ u_ws q.1 q.2.1 q.2.2, w ∈ q_tb) ∧ ∃ ty0 : Nat → FieldType, (∀ k, k < q.2.2 → parseFieldDescriptor (q.2.1 k).2.2.1 = some (ty0 k)) ∧ ∀ a, a < q.2.2 → ∀ b, b < q.2.2 → a ≠ b → (q.2.1 a).2.1 ≠ (q.2.1 b).2.1 := by
  simp only [vwCl, List.mem_cons, List.not_mem_nil, or_false] at hq
  rcases hq with rfl | rfl | rfl | rfl | rfl | rfl | rfl | rfl | rfl | rfl | rfl | rfl
  · exact ⟨inX0, tyX0, tyX0_ok, nmX0⟩
  · exact ⟨inX1, tyX1, tyX1_ok, nmX1⟩
  · exact ⟨inX2, tyX2, tyX2_ok, nmX2⟩
  · exact ⟨inX3, tyX3, tyX3_ok, nmX3⟩
  · exact ⟨inX4, tyX4, tyX4_ok, nmX4⟩
  · exact ⟨inX5, tyX5, tyX5_ok, nmX5⟩
  · exact ⟨inX6, tyX6, tyX6_ok, nmX6⟩
  · exact ⟨inX7, tyX7, tyX7_ok, nmX7⟩
  · exact ⟨inX8, tyX8, tyX8_ok, nmX8⟩
  · exact ⟨inX9, tyX9, tyX9_ok, nmX9⟩
  · exact ⟨inX10, tyX10, tyX10_ok, nmX10⟩
  · exact ⟨inX11, tyX11, tyX11_ok, nmX11⟩
section QS5
variable {p : Program} {l : Launch} {e : Env} {R : Room} {s : State} {m : MethodId} {args : Array Value} {below : List Frame} {meth : Method} {c : Code} {A : Nat → Prop} {H0 : Heap} {T : Int → Option QS} {N : List Int} {ad : Int → Nat} {D : va_G} {cy : Nat → ClassId} {nL : Nat} {Q : State → Prop} {own : String} {cc : ByteArray}
variable {pc nx : Nat} {ls : QL} {st : List QV} {μ : QM}
theorem q_refv {z : Int} (h : 0 ≤ z) : q_cv ad (.inr (.inr z)) = .ref (ad z) := by
  show va_rf (q_rf ad z) = _
  unfold q_rf
  rw [if_neg (by omega)]
  rfl
theorem q_loadI (F : q_Fix p s m args meth c T N D cy own cc) {k : Nat} (hd : (∃ f : Fin 4, (f : Nat) = k ∧ decode cc pc = .ok (.iload_n f, 1) ∧ nx = pc + 1) ∨ (decode cc pc = .ok (.iload k, 2) ∧ nx = pc + 2)) {z : Int} (hv : q_lg ls k = some (.inl z))
    (K : q_SW p l e R s m args below meth c A H0 T N ad D cy nL Q nx ls (.inl z :: st) μ) : q_SW p l e R s m args below meth c A H0 T N ad D cy nL Q pc ls st μ := by
  intro hn H locs la hP hD hS hl
  rcases hd with ⟨f, hf, hd, rfl⟩ | ⟨hd, rfl⟩
  · exact lv_iload_n F.1 F.2.1 hd hf (q_get hl hv) (K hn H locs la hP hD hS hl)
  · exact lv_iload F.1 F.2.1 hd (q_get hl hv) (K hn H locs la hP hD hS hl)
theorem q_loadL (F : q_Fix p s m args meth c T N D cy own cc) {k : Nat} (hd : (∃ f : Fin 4, (f : Nat) = k ∧ decode cc pc = .ok (.lload_n f, 1) ∧ nx = pc + 1) ∨ (decode cc pc = .ok (.lload k, 2) ∧ nx = pc + 2)) {z : Int} (hv : q_lg ls k = some (.inr (.inl z)))
    (K : q_SW p l e R s m args below meth c A H0 T N ad D cy nL Q nx ls (.inr (.inl z) :: st) μ) : q_SW p l e R s m args below meth c A H0 T N ad D cy nL Q pc ls st μ := by
  intro hn H locs la hP hD hS hl
  rcases hd with ⟨f, hf, hd, rfl⟩ | ⟨hd, rfl⟩
  · exact lv_lload_n F.1 F.2.1 hd hf (q_get hl hv) (K hn H locs la hP hD hS hl)
  · exact lv_lload F.1 F.2.1 hd (q_get hl hv) (K hn H locs la hP hD hS hl)
theorem q_loadA (F : q_Fix p s m args meth c T N D cy own cc) {k : Nat} (hd : (∃ f : Fin 4, (f : Nat) = k ∧ decode cc pc = .ok (.aload_n f, 1) ∧ nx = pc + 1) ∨ (decode cc pc = .ok (.aload k, 2) ∧ nx = pc + 2)) {z : Int} (h0 : 0 ≤ z) (hv : q_lg ls k = some (.inr (.inr z)))
    (K : q_SW p l e R s m args below meth c A H0 T N ad D cy nL Q nx ls (.inr (.inr z) :: st) μ) : q_SW p l e R s m args below meth c A H0 T N ad D cy nL Q pc ls st μ := by
  intro hn H locs la hP hD hS hl
  have hv := q_get hl hv
  have K := K hn H locs la hP hD hS hl
  rw [List.map_cons, q_refv h0] at K
  rw [q_refv h0] at hv
  rcases hd with ⟨f, hf, hd, rfl⟩ | ⟨hd, rfl⟩
  · exact lv_aload_n F.1 F.2.1 hd hf hv K
  · exact lv_aload F.1 F.2.1 hd hv K
theorem q_storeI (F : q_Fix p s m args meth c T N D cy own cc) {k : Nat} (hk : k < nL) (hd : (∃ f : Fin 4, (f : Nat) = k ∧ decode cc pc = .ok (.istore_n f, 1) ∧ nx = pc + 1) ∨ (decode cc pc = .ok (.istore k, 2) ∧ nx = pc + 2)) {z : Int}
    (K : q_SW p l e R s m args below meth c A H0 T N ad D cy nL Q nx (q_l1 ls k (.inl z)) st μ) : q_SW p l e R s m args below meth c A H0 T N ad D cy nL Q pc ls (.inl z :: st) μ := by
  intro hn H locs la hP hD hS hl
  have K := fun la' h => K ((q_l1n ls k (.inl z)).trans hn) H locs la' hP hD hS (q_put1 h)
  rcases hd with ⟨f, hf, hd, rfl⟩ | ⟨hd, rfl⟩
  · exact lv_istore_n F.1 F.2.1 hd hf hl hk rfl K
  · exact lv_istore F.1 F.2.1 hd hl hk rfl K
theorem q_storeA (F : q_Fix p s m args meth c T N D cy own cc) {k : Nat} (hk : k < nL) (hd : (∃ f : Fin 4, (f : Nat) = k ∧ decode cc pc = .ok (.astore_n f, 1) ∧ nx = pc + 1) ∨ (decode cc pc = .ok (.astore k, 2) ∧ nx = pc + 2)) {z : Int} (h0 : 0 ≤ z)
    (K : q_SW p l e R s m args below meth c A H0 T N ad D cy nL Q nx (q_l1 ls k (.inr (.inr z))) st μ) : q_SW p l e R s m args below meth c A H0 T N ad D cy nL Q pc ls (.inr (.inr z) :: st) μ := by
  intro hn H locs la hP hD hS hl
  have K := fun la' h => K ((q_l1n ls k (.inr (.inr z))).trans hn) H locs la' hP hD hS (q_put1 h)
  rw [q_refv h0] at K
  rw [List.map_cons, q_refv h0]
  rcases hd with ⟨f, hf, hd, rfl⟩ | ⟨hd, rfl⟩
  · exact lv_astore_n F.1 F.2.1 hd hf hl hk rfl K
  · exact lv_astore F.1 F.2.1 hd hl hk rfl K
theorem q_storeL (F : q_Fix p s m args meth c T N D cy own cc) {k : Nat} (hk : k + 1 < nL) (hd : (∃ f : Fin 4, (f : Nat) = k ∧ decode cc pc = .ok (.lstore_n f, 1) ∧ nx = pc + 1) ∨ (decode cc pc = .ok (.lstore k, 2) ∧ nx = pc + 2)) {z : Int}
    (K : q_SW p l e R s m args below meth c A H0 T N ad D cy nL Q nx (q_l2 ls k (.inr (.inl z))) st μ) : q_SW p l e R s m args below meth c A H0 T N ad D cy nL Q pc ls (.inr (.inl z) :: st) μ := by
  intro hn H locs la hP hD hS hl
  have K := fun la' h => K ((q_l2n ls k (.inr (.inl z))).trans hn) H locs la' hP hD hS (q_put2 h)
  rcases hd with ⟨f, hf, hd, rfl⟩ | ⟨hd, rfl⟩
  · exact lv_lstore_n F.1 F.2.1 hd hf hl hk rfl K
  · exact lv_lstore F.1 F.2.1 hd hl hk rfl K
theorem q_iinc (F : q_Fix p s m args meth c T N D cy own cc) {k : Nat} {v : Int} (hk : k < nL) (hd : decode cc pc = .ok (.iinc k v, 3)) {z : Int} (hv : q_lg ls k = some (.inl z))
    (K : q_SW p l e R s m args below meth c A H0 T N ad D cy nL Q (pc + 3) (q_l1 ls k (.inl (z + v))) st μ) : q_SW p l e R s m args below meth c A H0 T N ad D cy nL Q pc ls st μ := by
  intro hn H locs la hP hD hS hl
  have K := fun la' h => K ((q_l1n ls k (.inl (z + v))).trans hn) H locs la' hP hD hS (q_put1 h)
  obtain ⟨k9, hk9⟩ := List.getElem?_of_mem (q_mem (ad := ad) hv)
  exact lv_iinc F.1 F.2.1 hd hl hk9 (Int32.ofInt_add z v).symm hk rfl K
theorem q_fget (F : q_Fix p s m args meth c T N D cy own cc) {fl : Nat → Nat × Nat} {is : List Nat} (hf : q_fok own fl is) {i : Nat} (hi : i ∈ is) (hd : decode cc pc = .ok (.getfield i, 3)) {a : Int}
    (K : q_fd (T a) (fl i).1 (fl i).2 (fun sk => q_SW p l e R s m args below meth c A H0 T N ad D cy nL Q (pc + 3) ls (q_sv μ a (fl i).2 sk :: st) μ)) : q_SW p l e R s m args below meth c A H0 T N ad D cy nL Q pc ls (.inr (.inr a) :: st) μ := by
  intro hn H locs la hP hD hS hl
  obtain ⟨hx, hb, hown, hts, hK, hlk, hN, hT, hTl⟩ := F
  unfold q_fd at K
  cases hTa : T a with
  | none => rw [hTa] at K; exact K.elim
  | some sh =>
    obtain ⟨hm, h0⟩ := hT a sh hTa
    rw [hTa] at K
    rcases sh with ⟨cj, ks⟩ | x
    · obtain ⟨hc, K⟩ := K
      subst hc
      obtain ⟨q, h1, h2, h3, h4⟩ := hf i hi
      cases hk : ks[(fl i).2]? with
      | none => rw [hk] at K; exact K.elim
      | some sk =>
        rw [hk] at K
        obtain ⟨k9, hk9, hw9⟩ := q_wsg (T := T) (ad := ad) (cy := cy) (μ := μ) hm
        rw [hTa] at hw9
        rw [List.map_cons, q_refv h0]
        have hin := (q_cls (List.mem_of_getElem? h1)).1
        exact va_get (ci := (fl i).1) hx hb hts hin hown hK hP k9 hw9 h1 (fl i).2 h2 (hts _ h4) (fun _ h9 => h9) (by rw [List.getElem?_mapIdx, hk]; rfl) hd (K hn H locs la hP hD hS hl)
    · exact K.elim
theorem q_kty {ad : Int → Nat} {sk : QK} {v : QV} {ty : FieldType} {f : Int → Prop} (h : q_kt sk ty) (hp : q_pf sk v f) : narrow ty (q_cv ad v) = q_cv ad v ∧ fits ty (q_cv ad v) = true ∧ ∃ z, f z ∧ ∀ (μ : QM) (a : Int) (k : Nat), q_sv (q_up μ a k z) a k sk = v := by
  unfold q_pf at hp
  split at hp
  · cases h
    exact ⟨rfl, rfl, _, hp, fun μ a k => by simp [q_sv, q_up]⟩
  · cases h
    exact ⟨rfl, rfl, _, hp, fun μ a k => by simp [q_sv, q_up]⟩
  · cases h
    obtain ⟨h1, hp⟩ := hp
    refine ⟨?_, ?_, _, hp, fun μ a k => by simp [q_sv, q_up]⟩
    · rcases h1 with rfl | rfl
      · show narrow .boolean (.int (Int32.ofInt 0)) = .int (Int32.ofInt 0); decide
      · show narrow .boolean (.int (Int32.ofInt 1)) = .int (Int32.ofInt 1); decide
    · rcases h1 with rfl | rfl
      · show fits .boolean (.int (Int32.ofInt 0)) = true; decide
      · show fits .boolean (.int (Int32.ofInt 1)) = true; decide
  · refine ⟨?_, ?_, _, hp, fun μ a k => by simp [q_sv, q_up]⟩
    · rcases h with ⟨n, rfl⟩ | ⟨t, rfl⟩
      · show narrow _ (va_rf (q_rf ad _)) = va_rf (q_rf ad _)
        generalize q_rf ad _ = x
        cases x <;> rfl
      · show narrow _ (va_rf (q_rf ad _)) = va_rf (q_rf ad _)
        generalize q_rf ad _ = x
        cases x <;> rfl
    · rcases h with ⟨n, rfl⟩ | ⟨t, rfl⟩
      · show fits _ (va_rf (q_rf ad _)) = _
        unfold q_rf; split <;> rfl
      · show fits _ (va_rf (q_rf ad _)) = _
        unfold q_rf; split <;> rfl
  · exact hp.elim
theorem q_pfz {sk : QK} {v : QV} {f g : Int → Prop} (hp : q_pf sk v f) (h : ∀ z, f z → g z) : q_pf sk v g := by
  unfold q_pf at hp ⊢
  split at hp
  · exact h _ hp
  · exact h _ hp
  · exact ⟨hp.1, h _ hp.2⟩
  · exact h _ hp
  · exact hp.elim
theorem q_svo {μ : QM} {a z : Int} {k j : Nat} (sk : QK) (h : j ≠ k) : q_sv (q_up μ a k z) a j sk = q_sv μ a j sk := by
  have e : q_up μ a k z a j = μ a j := by
    simp only [q_up]
    rw [if_neg]
    intro q
    exact h (by have := q.2; omega)
  unfold q_sv
  split <;> simp only [e]
theorem q_fput (F : q_Fix p s m args meth c T N D cy own cc) {fl : Nat → Nat × Nat} {is ip : List Nat} (hf : q_fok own fl is) (hg : q_fokP own fl ip) {i : Nat} (hi : i ∈ is) (hj : i ∈ ip) (hd : decode cc pc = .ok (.putfield i, 3)) {a : Int} {v : QV}
    (K : q_fd (T a) (fl i).1 (fl i).2 (fun sk => q_pf sk v (fun z => q_SW p l e R s m args below meth c A H0 T N ad D cy nL Q (pc + 3) ls st (q_up μ a (fl i).2 z)))) : q_SW p l e R s m args below meth c A H0 T N ad D cy nL Q pc ls (v :: .inr (.inr a) :: st) μ := by
  intro hn H locs la hP hD hS hl
  obtain ⟨hx, hb, hown, hts, hK, hlk, hN, hT, hTl⟩ := F
  unfold q_fd at K
  cases hTa : T a with
  | none => rw [hTa] at K; exact K.elim
  | some sh =>
    obtain ⟨hm, h0⟩ := hT a sh hTa
    rw [hTa] at K
    rcases sh with ⟨cj, ks⟩ | x
    · obtain ⟨hc, K⟩ := K
      subst hc
      obtain ⟨q, h1, h2, h3, h4⟩ := hf i hi
      obtain ⟨q', g1, g2⟩ := hg i hj
      have eq' : q' = q := Option.some.inj (g1.symm.trans h1)
      subst eq'
      cases hk : ks[(fl i).2]? with
      | none => rw [hk] at K; exact K.elim
      | some sk =>
        rw [hk] at K
        obtain ⟨hlen, hty⟩ := hTl a _ ks _ hTa h1
        obtain ⟨ty, hpt, hkt⟩ := hty _ sk hk
        obtain ⟨n1, n2, z, hz, hsv⟩ := q_kty (ad := ad) hkt K
        obtain ⟨k9, hk9, hw9⟩ := q_wsg (T := T) (ad := ad) (cy := cy) (μ := μ) hm
        rw [hTa] at hw9
        rw [List.map_cons, List.map_cons, q_refv h0]
        obtain ⟨hin, ty0, hty0, hnm⟩ := q_cls (List.mem_of_getElem? h1)
        have hkl : (fl i).2 < ks.length := by rw [hlen]; exact h2
        have hset : (q_ws T N ad cy μ).set k9 (ad a, .inr ((fl i).1, (ks.mapIdx (fun k sk => q_cv ad (q_sv μ a k sk))).set (fl i).2 (q_cv ad v))) = q_ws T N ad cy (q_up μ a (fl i).2 z) := by
          refine q_wss hN hk9 ?_ (fun b hb9 => q_upo _ hb9)
          rw [hTa]
          show Sum.inr _ = Sum.inr _
          congr 2
          refine List.ext_getElem? fun j => ?_
          by_cases hj9 : j = (fl i).2
          · subst hj9
            rw [List.getElem?_set_self (by rw [List.length_mapIdx]; exact hkl), List.getElem?_mapIdx, hk]
            show some (q_cv ad v) = some (q_cv ad (q_sv (q_up μ a (fl i).2 z) a (fl i).2 sk))
            rw [hsv]
          · rw [List.getElem?_set_ne (Ne.symm hj9), List.getElem?_mapIdx, List.getElem?_mapIdx]
            cases hb9 : ks[j]? with
            | none => rfl
            | some sk9 =>
              show some (q_cv ad (q_sv μ a j sk9)) = some (q_cv ad (q_sv (q_up μ a (fl i).2 z) a j sk9))
              rw [q_svo sk9 hj9]
        refine va_put (ci := (fl i).1) hx hb hts hin ty0 hty0 hnm hown hK hP hD hS k9 hw9 h1 (fl i).2 h2 (hts _ h4) (fun _ h9 => h9) g2 hpt n1 n2 (by rw [List.length_mapIdx]; exact hkl) hd (fun H1 locs1 hP1 hD1 hS1 => ?_)
        rw [hset] at hP1 hD1
        exact hz hn H1 locs1 la hP1 hD1 hS1 hl
    · exact K.elim
theorem q_cell (F : q_Fix p s m args meth c T N D cy own cc) {a : Int} {sh : QS} (hTa : T a = some sh) : 0 ≤ a ∧ ∃ k : Nat, N[k]? = some a ∧ ∀ μ : QM, (q_ws T N ad cy μ)[k]? = some (ad a, q_ent ad cy μ a (some sh)) := by
  obtain ⟨hx, hb, hown, hts, hK, hlk, hN, hT, hTl⟩ := F
  obtain ⟨hm, h0⟩ := hT a sh hTa
  obtain ⟨k, hk⟩ := List.getElem?_of_mem hm
  exact ⟨h0, k, hk, fun μ => by unfold q_ws; rw [List.getElem?_map, hk]; show some (ad a, q_ent ad cy μ a (T a)) = _; rw [hTa]⟩
theorem q_alen (F : q_Fix p s m args meth c T N D cy own cc) (hd : decode cc pc = .ok (.arraylength, 1)) {a : Int}
    (K : q_al (T a) (fun n => q_SW p l e R s m args below meth c A H0 T N ad D cy nL Q (pc + 1) ls (.inl n :: st) μ)) : q_SW p l e R s m args below meth c A H0 T N ad D cy nL Q pc ls (.inr (.inr a) :: st) μ := by
  intro hn H locs la hP hD hS hl
  unfold q_al at K
  cases hTa : T a with
  | none => rw [hTa] at K; exact K.elim
  | some sh =>
    rw [hTa] at K
    rcases sh with x | ⟨t, n⟩
    · exact K.elim
    · obtain ⟨h0, k, -, hk⟩ := q_cell (ad := ad) F hTa
      obtain ⟨hx, hb, hown, hts, hK, hlk, hN, hT, hTl⟩ := F
      rw [List.map_cons, q_refv h0]
      obtain ⟨h5, K⟩ := K
      have K := K hn H locs la hP hD hS hl
      obtain ⟨t0, ty, ht⟩ : ∃ (t0 : Nat) (ty : FieldType), (q_tys cy)[t0]? = some (cy (q_akd t), ty) := by
        have : q_akd t = 0 ∨ q_akd t = 1 ∨ q_akd t = 2 ∨ q_akd t = 3 ∨ q_akd t = 4 ∨ q_akd t = 5 := by omega
        rcases this with h | h | h | h | h | h <;> rw [h]
        · exact ⟨0, _, rfl⟩
        · exact ⟨1, _, rfl⟩
        · exact ⟨2, _, rfl⟩
        · exact ⟨3, _, rfl⟩
        · exact ⟨4, _, rfl⟩
        · exact ⟨5, _, rfl⟩
      exact va_alen hx hb hK hP k t0 (hk μ) ht (Int32.ofInt_eq_ofNat).symm hd K
theorem q_aload (F : q_Fix p s m args meth c T N D cy own cc) {t : Nat} (hd : (t = 0 ∧ decode cc pc = .ok (.iaload, 1)) ∨ (t = 2 ∧ decode cc pc = .ok (.baload, 1)) ∨ (t = 3 ∧ decode cc pc = .ok (.caload, 1))) {a i : Int}
    (K : q_ar (T a) t i (q_SW p l e R s m args below meth c A H0 T N ad D cy nL Q (pc + 1) ls (.inl (μ a i) :: st) μ)) : q_SW p l e R s m args below meth c A H0 T N ad D cy nL Q pc ls (.inl i :: .inr (.inr a) :: st) μ := by
  intro hn H locs la hP hD hS hl
  unfold q_ar at K
  split at K
  · rename_i u n hTa
    obtain ⟨rfl, h1, h2, h3, K⟩ := K
    obtain ⟨h0, k, -, hk⟩ := q_cell (ad := ad) F hTa
    obtain ⟨hx, hb, hown, hts, hK, hlk, hN, hT, hTl⟩ := F
    have K := K hn H locs la hP hD hS hl
    have hin := q_in h1 h2 h3
    rw [List.map_cons, List.map_cons, q_refv h0]
    have ei : ((Int32.ofInt i).toNatClampNeg : Int) = i := by rw [q_cl h2 (by omega)]; exact q_nat h2
    rcases hd with ⟨rfl, hd⟩ | ⟨rfl, hd⟩ | ⟨rfl, hd⟩
    · refine va_iald (f := fun j => Int32.ofInt (μ a j)) hx hb hK hP k 0 (hk μ) rfl hin hd ?_
      show W _ _ _ _ _ _ _ _ _ _ _ _ _ _ _ (F0 _ _ _ (.int (Int32.ofInt (μ a ((Int32.ofInt i).toNatClampNeg : Int))) :: _))
      rw [ei]
      exact K
    · refine va_zald (f := fun j => Int32.ofInt (μ a j)) hx hb hK hP k 2 (hk μ) rfl hin hd ?_
      show W _ _ _ _ _ _ _ _ _ _ _ _ _ _ _ (F0 _ _ _ (.int (Int32.ofInt (μ a ((Int32.ofInt i).toNatClampNeg : Int))) :: _))
      rw [ei]
      exact K
    · refine va_cald (f := fun j => Int32.ofInt (μ a j)) hx hb hK hP k 3 (hk μ) rfl hin hd ?_
      show W _ _ _ _ _ _ _ _ _ _ _ _ _ _ _ (F0 _ _ _ (.int (Int32.ofInt (μ a ((Int32.ofInt i).toNatClampNeg : Int))) :: _))
      rw [ei]
      exact K
  · exact K.elim
theorem q_aloadL (F : q_Fix p s m args meth c T N D cy own cc) (hd : decode cc pc = .ok (.laload, 1)) {a i : Int}
    (K : q_ar (T a) 1 i (q_SW p l e R s m args below meth c A H0 T N ad D cy nL Q (pc + 1) ls (.inr (.inl (μ a i)) :: st) μ)) : q_SW p l e R s m args below meth c A H0 T N ad D cy nL Q pc ls (.inl i :: .inr (.inr a) :: st) μ := by
  intro hn H locs la hP hD hS hl
  unfold q_ar at K
  split at K
  · rename_i u n hTa
    obtain ⟨rfl, h1, h2, h3, K⟩ := K
    obtain ⟨h0, k, -, hk⟩ := q_cell (ad := ad) F hTa
    obtain ⟨hx, hb, hown, hts, hK, hlk, hN, hT, hTl⟩ := F
    have K := K hn H locs la hP hD hS hl
    have hin := q_in h1 h2 h3
    rw [List.map_cons, List.map_cons, q_refv h0]
    have ei : ((Int32.ofInt i).toNatClampNeg : Int) = i := by rw [q_cl h2 (by omega)]; exact q_nat h2
    refine va_lald (f := fun j => Int64.ofInt (μ a j)) hx hb hK hP k 1 (hk μ) rfl hin hd ?_
    show W _ _ _ _ _ _ _ _ _ _ _ _ _ _ _ (F0 _ _ _ (.long (Int64.ofInt (μ a ((Int32.ofInt i).toNatClampNeg : Int))) :: _))
    rw [ei]
    exact K
  · exact K.elim
theorem q_aloadA (F : q_Fix p s m args meth c T N D cy own cc) (hd : decode cc pc = .ok (.aaload, 1)) {a i : Int}
    (K : q_aa (T a) i (fun b => 0 ≤ b ∧ q_SW p l e R s m args below meth c A H0 T N ad D cy nL Q (pc + 1) ls (.inr (.inr b) :: st) μ)) : q_SW p l e R s m args below meth c A H0 T N ad D cy nL Q pc ls (.inl i :: .inr (.inr a) :: st) μ := by
  intro hn H locs la hP hD hS hl
  unfold q_aa at K
  split at K
  · rename_i t b n hTa
    obtain ⟨ht, h1, h2, h3, hb0, K⟩ := K
    obtain ⟨h0, k, -, hk⟩ := q_cell (ad := ad) F hTa
    obtain ⟨hx, hb, hown, hts, hK, hlk, hN, hT, hTl⟩ := F
    have K := K hn H locs la hP hD hS hl
    have hin := q_in h1 h2 h3
    rw [List.map_cons, List.map_cons, q_refv h0]
    have ei : ((Int32.ofInt i).toNatClampNeg : Int) = i := by rw [q_cl h2 (by omega)]; exact q_nat h2
    have hlt : (Int32.ofInt i).toNatClampNeg < n := Nat.not_le.mp fun q => hin (Or.inr q)
    have hv : (arrV (cy t) n (fun j => va_rf (q_rf ad (b + (j : Int))))).slots[(Int32.ofInt i).toNatClampNeg]? = some (q_cv ad (.inr (.inr (b + i)))) := by
      rw [arrV_read _ _ hlt, ei]
      rfl
    have hc : H[ad a]? = some (arrV (cy t) n (fun j => va_rf (q_rf ad (b + (j : Int))))) := hP k _ (hk μ)
    rcases ht with rfl | rfl
    · exact W.aald (ty := .object RX4) hx hb hc ((hK.2 4 _ rfl).1 n _) rfl (fun q => by cases q) (by rw [arrV_size]; exact hin) hv rfl rfl hd K
    · exact W.aald (ty := .array .int) hx hb hc ((hK.2 5 _ rfl).1 n _) rfl (fun q => by cases q) (by rw [arrV_size]; exact hin) hv rfl rfl hd K
  · exact K.elim
theorem q_upI {i : Int} {x : Int32} {v : Int} (μ : QM) (a : Int) (hi : 0 ≤ i) (hx : x = Int32.ofInt v) : upd (fun (j : Nat) => Int32.ofInt (μ a j)) i.toNat x = fun (j : Nat) => Int32.ofInt (q_up μ a i v a (j : Int)) := by
  funext j
  by_cases h : j = i.toNat
  · subst h
    simp [upd, q_up, hx, q_nat hi]
  · have h2 : ¬ (j : Int) = i := fun q => h (by omega)
    simp [upd, q_up, h, h2]
theorem q_nz {v : Int} (h : v = 0 ∨ v = 1) : vp_nar .boolean (Int32.ofInt v) = Int32.ofInt v := by
  rcases h with rfl | rfl <;> decide
theorem q_nc {v : Int} (h0 : 0 ≤ v) (h1 : v < 65536) : vp_nar .char (Int32.ofInt v) = Int32.ofInt v := by
  rw [vp_nar_char, ← lg_i2c_nf]
  exact q_i2c h0 h1
theorem q_ast (F : q_Fix p s m args meth c T N D cy own cc) {t : Nat} {v : Int} (hd : (t = 0 ∧ decode cc pc = .ok (.iastore, 1)) ∨ ((v = 0 ∨ v = 1) ∧ t = 2 ∧ decode cc pc = .ok (.bastore, 1)) ∨ ((0 ≤ v ∧ v < 65536) ∧ t = 3 ∧ decode cc pc = .ok (.castore, 1))) {a i : Int}
    (K : q_ar (T a) t i (q_SW p l e R s m args below meth c A H0 T N ad D cy nL Q (pc + 1) ls st (q_up μ a i v))) : q_SW p l e R s m args below meth c A H0 T N ad D cy nL Q pc ls (.inl v :: .inl i :: .inr (.inr a) :: st) μ := by
  intro hn H locs la hP hD hS hl
  unfold q_ar at K
  split at K
  · rename_i u n hTa
    obtain ⟨rfl, h1, h2, h3, K⟩ := K
    obtain ⟨h0, k, hk9, hk⟩ := q_cell (ad := ad) F hTa
    obtain ⟨hx, hb, hown, hts, hK, hlk, hN, hT, hTl⟩ := F
    have K := fun H1 locs1 hP1 hD1 hS1 => K hn H1 locs1 la hP1 hD1 hS1 hl
    have hin := q_in h1 h2 h3
    rw [List.map_cons, List.map_cons, List.map_cons, q_refv h0]
    have ei : (Int32.ofInt i).toNatClampNeg = i.toNat := q_cl h2 (by omega)
    rcases hd with ⟨rfl, hd⟩ | ⟨hv, rfl, hd⟩ | ⟨hv, rfl, hd⟩
    · refine va_iast (f := fun j => Int32.ofInt (μ a j)) hx hb hK hP hD hS k 0 (hk μ) rfl hin hd (fun H1 locs1 hP1 hD1 hS1 => ?_)
      have hset := q_wss (T := T) (ad := ad) (cy := cy) (μ := μ) (μ' := q_up μ a i v) (e := .inl (cy 0, n, .inl (upd (fun j => Int32.ofInt (μ a j)) (Int32.ofInt i).toNatClampNeg (Int32.ofInt v)))) hN hk9 (by rw [hTa, ei, q_upI μ a h2 rfl]; rfl) (fun b hb9 => q_upo _ hb9)
      exact K H1 locs1 (by rw [← hset]; exact hP1) (by rw [← hset]; exact hD1) hS1
    · refine va_zast (f := fun j => Int32.ofInt (μ a j)) hx hb hK hP hD hS k 2 (hk μ) rfl hin hd (fun H1 locs1 hP1 hD1 hS1 => ?_)
      have hset := q_wss (T := T) (ad := ad) (cy := cy) (μ := μ) (μ' := q_up μ a i v) (e := .inl (cy 2, n, .inl (upd (fun j => Int32.ofInt (μ a j)) (Int32.ofInt i).toNatClampNeg (vp_nar .boolean (Int32.ofInt v))))) hN hk9 (by rw [hTa, ei, q_upI μ a h2 (q_nz hv)]; rfl) (fun b hb9 => q_upo _ hb9)
      exact K H1 locs1 (by rw [← hset]; exact hP1) (by rw [← hset]; exact hD1) hS1
    · refine va_cast (f := fun j => Int32.ofInt (μ a j)) hx hb hK hP hD hS k 3 (hk μ) rfl hin hd (fun H1 locs1 hP1 hD1 hS1 => ?_)
      have hset := q_wss (T := T) (ad := ad) (cy := cy) (μ := μ) (μ' := q_up μ a i v) (e := .inl (cy 3, n, .inl (upd (fun j => Int32.ofInt (μ a j)) (Int32.ofInt i).toNatClampNeg (vp_nar .char (Int32.ofInt v))))) hN hk9 (by rw [hTa, ei, q_upI μ a h2 (q_nc hv.1 hv.2)]; rfl) (fun b hb9 => q_upo _ hb9)
      exact K H1 locs1 (by rw [← hset]; exact hP1) (by rw [← hset]; exact hD1) hS1
  · exact K.elim
theorem q_upJ {i : Int} {v : Int} (μ : QM) (a : Int) (hi : 0 ≤ i) : vp_updL (fun (j : Nat) => Int64.ofInt (μ a j)) i.toNat (Int64.ofInt v) = fun (j : Nat) => Int64.ofInt (q_up μ a i v a (j : Int)) := by
  funext j
  by_cases h : j = i.toNat
  · subst h
    simp [vp_updL, q_up, q_nat hi]
  · have h2 : ¬ (j : Int) = i := fun q => h (by omega)
    simp [vp_updL, q_up, h, h2]
theorem q_astL (F : q_Fix p s m args meth c T N D cy own cc) {v : Int} (hd : decode cc pc = .ok (.lastore, 1)) {a i : Int}
    (K : q_ar (T a) 1 i (q_SW p l e R s m args below meth c A H0 T N ad D cy nL Q (pc + 1) ls st (q_up μ a i v))) : q_SW p l e R s m args below meth c A H0 T N ad D cy nL Q pc ls (.inr (.inl v) :: .inl i :: .inr (.inr a) :: st) μ := by
  intro hn H locs la hP hD hS hl
  unfold q_ar at K
  split at K
  · rename_i u n hTa
    obtain ⟨rfl, h1, h2, h3, K⟩ := K
    obtain ⟨h0, k, hk9, hk⟩ := q_cell (ad := ad) F hTa
    obtain ⟨hx, hb, hown, hts, hK, hlk, hN, hT, hTl⟩ := F
    have K := fun H1 locs1 hP1 hD1 hS1 => K hn H1 locs1 la hP1 hD1 hS1 hl
    have hin := q_in h1 h2 h3
    rw [List.map_cons, List.map_cons, List.map_cons, q_refv h0]
    have ei : (Int32.ofInt i).toNatClampNeg = i.toNat := q_cl h2 (by omega)
    refine va_last (f := fun j => Int64.ofInt (μ a j)) hx hb hK hP hD hS k 1 (hk μ) rfl hin hd (fun H1 locs1 hP1 hD1 hS1 => ?_)
    have hset := q_wss (T := T) (ad := ad) (cy := cy) (μ := μ) (μ' := q_up μ a i v) (e := .inl (cy 1, n, .inr (.inl (vp_updL (fun j => Int64.ofInt (μ a j)) (Int32.ofInt i).toNatClampNeg (Int64.ofInt v))))) hN hk9 (by rw [hTa, ei, q_upJ μ a h2]; rfl) (fun b hb9 => q_upo _ hb9)
    exact K H1 locs1 (by rw [← hset]; exact hP1) (by rw [← hset]; exact hD1) hS1
  · exact K.elim
theorem q_swS {a : Int} {g : Nat → Prop} : ∀ (L : List (Int × Nat)) (x : Int) (d : Nat), q_sw a g (L ++ [(x, d)]) → (∃ (i : Nat) (t : Nat), L[i]? = some (a, t) ∧ (∀ j q, j < i → L[j]? = some q → q.1 ≠ a) ∧ g t) ∨ ((∀ q ∈ L, q.1 ≠ a) ∧ g d)
  | [], x, d, h => Or.inr ⟨fun q hq => absurd hq List.not_mem_nil, h⟩
  | (v, t) :: L, x, d, h => by
    have h1 : (a = v → g t) ∧ (¬ a = v → q_sw a g (L ++ [(x, d)])) := by
      cases L with
      | nil => exact h
      | cons y L => exact h
    by_cases hv : a = v
    · subst hv
      exact Or.inl ⟨0, t, rfl, fun j q hj => by omega, h1.1 rfl⟩
    · rcases q_swS L x d (h1.2 hv) with ⟨i, t2, e1, e2, e3⟩ | ⟨e1, e2⟩
      · refine Or.inl ⟨i + 1, t2, e1, fun j q hj hq => ?_, e3⟩
        cases j with
        | zero => cases hq; exact fun q => hv q.symm
        | succ j => exact e2 j q (by omega) hq
      · refine Or.inr ⟨fun q hq => ?_, e2⟩
        rcases List.mem_cons.mp hq with rfl | hq
        · exact fun q => hv q.symm
        · exact e1 q hq
end QS5
