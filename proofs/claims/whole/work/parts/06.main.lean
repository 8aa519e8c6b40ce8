/-- what a contract says at the end -/
def q_Qc (T : Int → Option QS) (N : List Int) (ad : Int → Nat) (D : va_G) (cy : Nat → ClassId) (A : Nat → Prop) (Rt : Option QV → QM → Prop) : Array Value → State → Outcome → State → Prop := fun _ st oc t => (∃ (o : Option QV) (μ : QM), oc = .returned (o.map (q_cv ad)) ∧ Rt o μ ∧ va_P D vwCl (q_ws T N ad cy μ) t.heap) ∧ va_F A st t
def q_rto (rk : Nat) (r : Option FieldType) : Prop := match rk with
  | 0 => r = some .int
  | 1 => r = some .boolean
  | 2 => r = some .char
  | 3 => ∃ n, r = some (.object n)
  | _ => r = none
def q_ldk (own : String) (ld : Nat → QV) (lc : List Nat) : Prop := ∀ i ∈ lc, match ld i with
  | .inl z => Cond.constant own i (Int32.ofInt z) ∈ q_tb
  | .inr (.inl z) => Cond.constantLong own i (Int64.ofInt z) ∈ q_tb
  | _ => False
theorem q_tabS {pc : Nat} {tg : List (Int × Nat)} {d lo hi : Int} {offs : Array Int} {a : Int} {g : Nat → Prop} (ht : tg.map (fun q => (q.1, (q.2 : Int))) = ((List.range offs.size).map (fun (i : Nat) => (lo + (i : Int), (pc : Int) + offs.getD i 0))) ++ [((0 : Int), (pc : Int) + d)] ∧ (offs.size : Int) = hi - lo + 1) (h : q_sw a g tg) :
    (∃ (t : Nat) (off : Int), ¬ a < lo ∧ ¬ hi < a ∧ offs[(a - lo).toNat]? = some off ∧ (pc : Int) + off = (t : Int) ∧ g t) ∨ (∃ t : Nat, (a < lo ∨ hi < a) ∧ (pc : Int) + d = (t : Int) ∧ g t) := by
  obtain ⟨ht, hsz⟩ := ht
  obtain ⟨L, l2, rfl, h1, h2⟩ := List.map_eq_append_iff.mp ht
  cases l2 with
  | nil => cases h2
  | cons q l3 =>
    cases l3 with
    | cons q2 l4 => exact absurd (congrArg List.length h2) (by simp)
    | nil =>
      obtain ⟨x, dd⟩ := q
      have h3 : ((dd : Nat) : Int) = (pc : Int) + d := congrArg Prod.snd (List.cons.inj h2).1
      rcases q_swS L x dd h with ⟨i, t, e1, -, e3⟩ | ⟨e1, e2⟩
      · have h4 : (L.map (fun q => (q.1, (q.2 : Int))))[i]? = some (a, (t : Int)) := by rw [List.getElem?_map, e1]; rfl
        rw [h1, List.getElem?_map] at h4
        cases hi9 : (List.range offs.size)[i]? with
        | none => rw [hi9] at h4; cases h4
        | some j =>
          rw [hi9] at h4
          obtain ⟨hj, ej⟩ := List.getElem?_eq_some_iff.mp hi9
          rw [List.getElem_range] at ej
          subst ej
          rw [List.length_range] at hj
          have h5 : (lo + (i : Int), (pc : Int) + offs.getD i 0) = (a, (t : Int)) := Option.some.inj h4
          have h6 : lo + (i : Int) = a := congrArg Prod.fst h5
          have h7 : (pc : Int) + offs.getD i 0 = (t : Int) := congrArg Prod.snd h5
          refine Or.inl ⟨t, offs.getD i 0, by omega, by omega, ?_, h7, e3⟩
          have h8 : (a - lo).toNat = i := by omega
          rw [h8]
          simp [Array.getD, hj]
      · refine Or.inr ⟨dd, ?_, h3.symm, e2⟩
        by_cases c1 : a < lo
        · exact Or.inl c1
        · refine Or.inr (Int.not_le.mp fun c2 => ?_)
          have hj : (a - lo).toNat < offs.size := by omega
          have h4 : (L.map (fun q => (q.1, (q.2 : Int))))[(a - lo).toNat]? = some (lo + ((a - lo).toNat : Int), (pc : Int) + offs.getD (a - lo).toNat 0) := by
            rw [h1, List.getElem?_map, List.getElem?_range hj]
            rfl
          rw [List.getElem?_map] at h4
          cases hq : L[(a - lo).toNat]? with
          | none => rw [hq] at h4; cases h4
          | some q =>
            rw [hq] at h4
            have h5 : q.1 = lo + ((a - lo).toNat : Int) := congrArg Prod.fst (Option.some.inj h4)
            exact e1 q (List.mem_of_getElem? hq) (by omega)
theorem q_lkS {pc : Nat} {d : Int} {a : Int} {g : Nat → Prop} : ∀ (ps : List (Int × Int)) (tg : List (Int × Nat)), tg.map (fun q => (q.1, (q.2 : Int))) = ps.map (fun q => (q.1, (pc : Int) + q.2)) ++ [((0 : Int), (pc : Int) + d)] → q_sw a g tg → ∃ (t : Nat) (off : Int), Op.lookupswitch.offset ps d a = off ∧ (pc : Int) + off = (t : Int) ∧ g t
  | [], tg, ht, h => by
    cases tg with
    | nil => cases ht
    | cons q l3 =>
      cases l3 with
      | cons q2 l4 => exact absurd (congrArg List.length ht) (by simp)
      | nil =>
        obtain ⟨x, dd⟩ := q
        have h3 : ((dd : Nat) : Int) = (pc : Int) + d := congrArg Prod.snd (List.cons.inj ht).1
        exact ⟨dd, d, rfl, h3.symm, h⟩
  | (v, o) :: ps, tg, ht, h => by
    cases tg with
    | nil => cases ht
    | cons q l3 =>
      obtain ⟨x, dd⟩ := q
      have h1 := List.cons.inj ht
      have h2 : x = v := congrArg Prod.fst h1.1
      have h3 : ((dd : Nat) : Int) = (pc : Int) + o := congrArg Prod.snd h1.1
      subst h2
      have h4 : (a = x → g dd) ∧ (¬ a = x → q_sw a g l3) := by
        cases l3 with
        | nil => exact absurd (congrArg List.length h1.2) (by simp)
        | cons y L => exact h
      by_cases c : a = x
      · refine ⟨dd, o, ?_, h3.symm, h4.1 c⟩
        rw [Op.lookupswitch.offset_cons, if_pos c.symm]
      · obtain ⟨t, off, e1, e2, e3⟩ := q_lkS ps l3 h1.2 (h4.2 c)
        refine ⟨t, off, ?_, e2, e3⟩
        rw [Op.lookupswitch.offset_cons, if_neg (fun q => c q.symm)]
        exact e1
section QS6
variable {p : Program} {l : Launch} {e : Env} {R : Room} {s : State} {m : MethodId} {args : Array Value} {below : List Frame} {meth : Method} {c : Code} {A : Nat → Prop} {T : Int → Option QS} {N : List Int} {ad : Int → Nat} {D : va_G} {cy : Nat → ClassId} {nL : Nat} {own : String} {cc : ByteArray}
variable {fl : Nat → Nat × Nat} {ld : Nat → QV} {Γ : Nat → Nat × QP} {rk : Nat} {Rt : Option QV → QM → Prop} {u : QU}
set_option maxHeartbeats 4000000 in
theorem q_stpS (F : q_Fix p s m args meth c T N D cy own cc) (hf : q_fok own fl u.1) (hg : q_fokP own fl u.2.1) (hld : q_ldk own ld u.2.2.1) (hr : q_rto rk meth.sig.returnType)
    (hstr : ∀ i ∈ u.2.2.2.1, ∀ (pc : Nat) (ls : QL) (st : List QV) (μ : QM), decode cc pc = .ok (.ldc i, 2) → q_SW p l e R s m args below meth c A s.heap T N ad D cy nL (MQ below (q_Qc T N ad D cy A Rt) args s 0 0 A) (pc + 2) ls (ld i :: st) μ → q_SW p l e R s m args below meth c A s.heap T N ad D cy nL (MQ below (q_Qc T N ad D cy A Rt) args s 0 0 A) pc ls st μ)
    (hcV : ∀ i ∈ u.2.2.2.2.1, ∀ (pc : Nat) (ls : QL) (st : List QV) (μ : QM) (K : Option QV → QM → Prop), decode cc pc = .ok (.invokevirtual i, 3) → (Γ i).1 ≤ st.length → q_cats (st.drop (Γ i).1) ≤ 8 → (Γ i).2 (st.take (Γ i).1) μ K → (∀ o μ', K o μ' → q_SW p l e R s m args below meth c A s.heap T N ad D cy nL (MQ below (q_Qc T N ad D cy A Rt) args s 0 0 A) (pc + 3) ls (o.toList ++ st.drop (Γ i).1) μ') → q_SW p l e R s m args below meth c A s.heap T N ad D cy nL (MQ below (q_Qc T N ad D cy A Rt) args s 0 0 A) pc ls st μ)
    (hcS : ∀ i ∈ u.2.2.2.2.2.1, ∀ (pc : Nat) (ls : QL) (st : List QV) (μ : QM) (K : Option QV → QM → Prop), decode cc pc = .ok (.invokestatic i, 3) → (Γ i).1 ≤ st.length → q_cats (st.drop (Γ i).1) ≤ 8 → (Γ i).2 (st.take (Γ i).1) μ K → (∀ o μ', K o μ' → q_SW p l e R s m args below meth c A s.heap T N ad D cy nL (MQ below (q_Qc T N ad D cy A Rt) args s 0 0 A) (pc + 3) ls (o.toList ++ st.drop (Γ i).1) μ') → q_SW p l e R s m args below meth c A s.heap T N ad D cy nL (MQ below (q_Qc T N ad D cy A Rt) args s 0 0 A) pc ls st μ)
    (hcI : ∀ i ∈ u.2.2.2.2.2.2, ∀ (pc : Nat) (ls : QL) (st : List QV) (μ : QM) (K : Option QV → QM → Prop), decode cc pc = .ok (.invokespecial i, 3) → (Γ i).1 ≤ st.length → q_cats (st.drop (Γ i).1) ≤ 8 → (Γ i).2 (st.take (Γ i).1) μ K → (∀ o μ', K o μ' → q_SW p l e R s m args below meth c A s.heap T N ad D cy nL (MQ below (q_Qc T N ad D cy A Rt) args s 0 0 A) (pc + 3) ls (o.toList ++ st.drop (Γ i).1) μ') → q_SW p l e R s m args below meth c A s.heap T N ad D cy nL (MQ below (q_Qc T N ad D cy A Rt) args s 0 0 A) pc ls st μ)
    (go : List QE → Nat → QL → List QV → QM → Prop) (hgo : ∀ (b : List QE) (pc : Nat) (ls : QL) (st : List QV) (μ : QM), q_ok cc nL u pc b = true → go b pc ls st μ → q_SW p l e R s m args below meth c A s.heap T N ad D cy nL (MQ below (q_Qc T N ad D cy A Rt) args s 0 0 A) pc ls st μ)
    (pc : Nat) (ins : Instr) (nx : Nat) (tg : List (Int × Nat)) (r : List QE) (ls : QL) (st : List QV) (μ : QM) (hok : q_ok cc nL u pc ((ins, nx, tg) :: r) = true) (h : q_stp fl ld Γ T rk Rt go ins nx tg r ls st μ) :
    q_SW p l e R s m args below meth c A s.heap T N ad D cy nL (MQ below (q_Qc T N ad D cy A Rt) args s 0 0 A) pc ls st μ := by
  have hok' : q_dec cc pc nx ins = true ∧ q_sto nL ins = true ∧ q_tgt pc tg ins = true ∧ q_use u ins = true ∧ q_ok cc nL u nx r = true := by
    simp only [q_ok, Bool.and_eq_true] at hok
    exact ⟨hok.1.1.1.1, hok.1.1.1.2, hok.1.1.2, hok.1.2, hok.2⟩
  obtain ⟨hdec, hsto, htgt, huse, hr9⟩ := hok'
  clear hok
  have hx := F.1
  have hb := F.2.1
  have hown := F.2.2.1
  have hts := F.2.2.2.1
  have hlocks := F.2.2.2.2.2.1
  unfold q_stp at h
  split at h
  · obtain ⟨hd, rfl⟩ : decode cc pc = .ok (.iconst _, 1) ∧ nx = pc + 1 := of_decide_eq_true hdec
    intro hn H locs la hP hD hS hl
    exact lv_iconst hx hb hd rfl (hgo _ _ _ _ _ hr9 h hn H locs la hP hD hS hl)
  · obtain ⟨hd, rfl⟩ : decode cc pc = .ok (.bipush _, 2) ∧ nx = pc + 2 := of_decide_eq_true hdec
    intro hn H locs la hP hD hS hl
    exact lv_bipush hx hb hd (q_bip h.1) (hgo _ _ _ _ _ hr9 h.2 hn H locs la hP hD hS hl)
  · obtain ⟨hd, rfl⟩ : decode cc pc = .ok (.sipush _, 3) ∧ nx = pc + 3 := of_decide_eq_true hdec
    intro hn H locs la hP hD hS hl
    exact lv_sipush hx hb hd (q_sip h.1) (hgo _ _ _ _ _ hr9 h.2 hn H locs la hP hD hS hl)
  · obtain ⟨hd, rfl⟩ : decode cc pc = .ok (.lconst _, 1) ∧ nx = pc + 1 := of_decide_eq_true hdec
    intro hn H locs la hP hD hS hl
    exact lv_lconst hx hb hd (Int64.ofInt_eq_ofNat).symm (hgo _ _ _ _ _ hr9 h hn H locs la hP hD hS hl)
  · obtain ⟨hd, rfl⟩ : decode cc pc = .ok (.ldc _, 2) ∧ nx = pc + 2 := of_decide_eq_true hdec
    have hu := of_decide_eq_true huse
    rcases hu with hu | hu
    · have h2 := hld _ hu
      intro hn H locs la hP hD hS hl
      have K := hgo _ _ _ _ _ hr9 h.2 hn H locs la hP hD hS hl
      have h1 := h.1
      rcases hv : ld _ with z | z | z
      · rw [hv] at h2 K
        exact lv_ldc hx hb hown (hts _ h2) hd K
      · rw [hv] at h1
        exact absurd h1 (by simp [q_ct])
      · rw [hv] at h2
        exact h2.elim
    · exact hstr _ hu _ _ _ _ hd (hgo _ _ _ _ _ hr9 h.2)
  · obtain ⟨hd, rfl⟩ : decode cc pc = .ok (.ldc_w _, 3) ∧ nx = pc + 3 := of_decide_eq_true hdec
    have h2 := hld _ (of_decide_eq_true huse)
    unfold q_int at h
    split at h
    · rename_i z hz
      rw [Option.some.inj hz] at h2
      intro hn H locs la hP hD hS hl
      exact lv_ldcw hx hb hown (hts _ h2) hd (hgo _ _ _ _ _ hr9 h hn H locs la hP hD hS hl)
    · exact h.elim
  · obtain ⟨hd, rfl⟩ : decode cc pc = .ok (.ldc2_w _, 3) ∧ nx = pc + 3 := of_decide_eq_true hdec
    have h2 := hld _ (of_decide_eq_true huse)
    unfold q_lng at h
    split at h
    · rename_i z hz
      rw [Option.some.inj hz] at h2
      intro hn H locs la hP hD hS hl
      exact lv_ldc2 hx hb hown (hts _ h2) hd (hgo _ _ _ _ _ hr9 h hn H locs la hP hD hS hl)
    · exact h.elim
  · obtain ⟨hd, rfl⟩ : decode cc pc = .ok (.iload_n _, 1) ∧ nx = pc + 1 := of_decide_eq_true hdec
    unfold q_int at h
    split at h
    · rename_i z hz
      exact q_loadI F (Or.inl ⟨_, rfl, hd, rfl⟩) hz (hgo _ _ _ _ _ hr9 h)
    · exact h.elim
  · obtain ⟨hd, rfl⟩ : decode cc pc = .ok (.iload _, 2) ∧ nx = pc + 2 := of_decide_eq_true hdec
    unfold q_int at h
    split at h
    · rename_i z hz
      exact q_loadI F (Or.inr ⟨hd, rfl⟩) hz (hgo _ _ _ _ _ hr9 h)
    · exact h.elim
  · obtain ⟨hd, rfl⟩ : decode cc pc = .ok (.lload_n _, 1) ∧ nx = pc + 1 := of_decide_eq_true hdec
    unfold q_lng at h
    split at h
    · rename_i z hz
      exact q_loadL F (Or.inl ⟨_, rfl, hd, rfl⟩) hz (hgo _ _ _ _ _ hr9 h)
    · exact h.elim
  · obtain ⟨hd, rfl⟩ : decode cc pc = .ok (.lload _, 2) ∧ nx = pc + 2 := of_decide_eq_true hdec
    unfold q_lng at h
    split at h
    · rename_i z hz
      exact q_loadL F (Or.inr ⟨hd, rfl⟩) hz (hgo _ _ _ _ _ hr9 h)
    · exact h.elim
  · obtain ⟨hd, rfl⟩ : decode cc pc = .ok (.aload_n _, 1) ∧ nx = pc + 1 := of_decide_eq_true hdec
    unfold q_ref at h
    split at h
    · rename_i z hz
      exact q_loadA F (Or.inl ⟨_, rfl, hd, rfl⟩) h.1 hz (hgo _ _ _ _ _ hr9 h.2)
    · exact h.elim
  · obtain ⟨hd, rfl⟩ : decode cc pc = .ok (.aload _, 2) ∧ nx = pc + 2 := of_decide_eq_true hdec
    unfold q_ref at h
    split at h
    · rename_i z hz
      exact q_loadA F (Or.inr ⟨hd, rfl⟩) h.1 hz (hgo _ _ _ _ _ hr9 h.2)
    · exact h.elim
  · obtain ⟨hd, rfl⟩ : decode cc pc = .ok (.istore_n _, 1) ∧ nx = pc + 1 := of_decide_eq_true hdec
    exact q_storeI F (of_decide_eq_true hsto) (Or.inl ⟨_, rfl, hd, rfl⟩) (hgo _ _ _ _ _ hr9 h)
  · obtain ⟨hd, rfl⟩ : decode cc pc = .ok (.istore _, 2) ∧ nx = pc + 2 := of_decide_eq_true hdec
    exact q_storeI F (of_decide_eq_true hsto) (Or.inr ⟨hd, rfl⟩) (hgo _ _ _ _ _ hr9 h)
  · obtain ⟨hd, rfl⟩ : decode cc pc = .ok (.lstore_n _, 1) ∧ nx = pc + 1 := of_decide_eq_true hdec
    exact q_storeL F (of_decide_eq_true hsto) (Or.inl ⟨_, rfl, hd, rfl⟩) (hgo _ _ _ _ _ hr9 h)
  · obtain ⟨hd, rfl⟩ : decode cc pc = .ok (.lstore _, 2) ∧ nx = pc + 2 := of_decide_eq_true hdec
    exact q_storeL F (of_decide_eq_true hsto) (Or.inr ⟨hd, rfl⟩) (hgo _ _ _ _ _ hr9 h)
  · obtain ⟨hd, rfl⟩ : decode cc pc = .ok (.astore_n _, 1) ∧ nx = pc + 1 := of_decide_eq_true hdec
    exact q_storeA F (of_decide_eq_true hsto) (Or.inl ⟨_, rfl, hd, rfl⟩) h.1 (hgo _ _ _ _ _ hr9 h.2)
  · obtain ⟨hd, rfl⟩ : decode cc pc = .ok (.astore _, 2) ∧ nx = pc + 2 := of_decide_eq_true hdec
    exact q_storeA F (of_decide_eq_true hsto) (Or.inr ⟨hd, rfl⟩) h.1 (hgo _ _ _ _ _ hr9 h.2)
  · obtain ⟨hd, rfl⟩ : decode cc pc = .ok (.iinc _ _, 3) ∧ nx = pc + 3 := of_decide_eq_true hdec
    unfold q_int at h
    split at h
    · rename_i z hz
      exact q_iinc F (of_decide_eq_true hsto) hd hz (hgo _ _ _ _ _ hr9 h)
    · exact h.elim
  · obtain ⟨hd, rfl⟩ : decode cc pc = .ok (.iadd, 1) ∧ nx = pc + 1 := of_decide_eq_true hdec
    intro hn H locs la hP hD hS hl
    have K := hgo _ _ _ _ _ hr9 h hn H locs la hP hD hS hl
    simp only [List.map_cons, q_cv, Int32.ofInt_add] at K ⊢
    exact lv_iadd hx hb hd K
  · obtain ⟨hd, rfl⟩ : decode cc pc = .ok (.isub, 1) ∧ nx = pc + 1 := of_decide_eq_true hdec
    intro hn H locs la hP hD hS hl
    have K := hgo _ _ _ _ _ hr9 h hn H locs la hP hD hS hl
    simp only [List.map_cons, q_cv, Int32.ofInt_sub] at K ⊢
    exact lv_isub hx hb hd K
  · obtain ⟨hd, rfl⟩ : decode cc pc = .ok (.imul, 1) ∧ nx = pc + 1 := of_decide_eq_true hdec
    intro hn H locs la hP hD hS hl
    have K := hgo _ _ _ _ _ hr9 h hn H locs la hP hD hS hl
    simp only [List.map_cons, q_cv, Int32.ofInt_mul] at K ⊢
    exact lv_imul hx hb hd K
  · obtain ⟨hd, rfl⟩ : decode cc pc = .ok (.ineg, 1) ∧ nx = pc + 1 := of_decide_eq_true hdec
    intro hn H locs la hP hD hS hl
    have K := hgo _ _ _ _ _ hr9 h hn H locs la hP hD hS hl
    simp only [List.map_cons, q_cv, Int32.ofInt_neg] at K ⊢
    exact lv_ineg hx hb hd K
  · obtain ⟨hd, rfl⟩ : decode cc pc = .ok (.iand, 1) ∧ nx = pc + 1 := of_decide_eq_true hdec
    intro hn H locs la hP hD hS hl
    have K := hgo _ _ _ _ _ hr9 h hn H locs la hP hD hS hl
    simp only [List.map_cons, q_cv, q_and, Int32.ofInt_toInt] at K ⊢
    exact lv_iand hx hb hd K
  · obtain ⟨hd, rfl⟩ : decode cc pc = .ok (.ior, 1) ∧ nx = pc + 1 := of_decide_eq_true hdec
    intro hn H locs la hP hD hS hl
    have K := hgo _ _ _ _ _ hr9 h hn H locs la hP hD hS hl
    simp only [List.map_cons, q_cv, q_or, Int32.ofInt_toInt] at K ⊢
    exact lv_ior hx hb hd K
  · obtain ⟨hd, rfl⟩ : decode cc pc = .ok (.ixor, 1) ∧ nx = pc + 1 := of_decide_eq_true hdec
    intro hn H locs la hP hD hS hl
    have K := hgo _ _ _ _ _ hr9 h hn H locs la hP hD hS hl
    simp only [List.map_cons, q_cv, q_xor, Int32.ofInt_toInt] at K ⊢
    exact lv_ixor hx hb hd K
  · obtain ⟨hd, rfl⟩ : decode cc pc = .ok (.ishl, 1) ∧ nx = pc + 1 := of_decide_eq_true hdec
    intro hn H locs la hP hD hS hl
    have K := hgo _ _ _ _ _ hr9 h hn H locs la hP hD hS hl
    simp only [List.map_cons, q_cv, q_shl, Int32.ofInt_toInt] at K ⊢
    exact lv_ishl hx hb hd K
  · obtain ⟨hd, rfl⟩ : decode cc pc = .ok (.ishr, 1) ∧ nx = pc + 1 := of_decide_eq_true hdec
    intro hn H locs la hP hD hS hl
    have K := hgo _ _ _ _ _ hr9 h hn H locs la hP hD hS hl
    simp only [List.map_cons, q_cv, q_shr, Int32.ofInt_toInt] at K ⊢
    exact lv_ishr hx hb hd K
  · obtain ⟨hd, rfl⟩ : decode cc pc = .ok (.iushr, 1) ∧ nx = pc + 1 := of_decide_eq_true hdec
    intro hn H locs la hP hD hS hl
    have K := hgo _ _ _ _ _ hr9 h hn H locs la hP hD hS hl
    simp only [List.map_cons, q_cv, q_ush, Int32.ofInt_toInt] at K ⊢
    exact lv_iushr hx hb hd rfl K
  · obtain ⟨hd, rfl⟩ : decode cc pc = .ok (.idiv, 1) ∧ nx = pc + 1 := of_decide_eq_true hdec
    intro hn H locs la hP hD hS hl
    have K := hgo _ _ _ _ _ hr9 h.2 hn H locs la hP hD hS hl
    simp only [List.map_cons, q_cv] at K ⊢
    rw [← q_divS h.1] at K
    exact lv_idiv hx hb hd (by rw [q_eq0 ⟨by omega, by omega⟩]; omega) K
  · obtain ⟨hd, rfl⟩ : decode cc pc = .ok (.irem, 1) ∧ nx = pc + 1 := of_decide_eq_true hdec
    intro hn H locs la hP hD hS hl
    have K := hgo _ _ _ _ _ hr9 h.2 hn H locs la hP hD hS hl
    simp only [List.map_cons, q_cv] at K ⊢
    rw [← q_remS h.1] at K
    exact lv_irem hx hb hd (by rw [q_eq0 ⟨by omega, by omega⟩]; omega) K
  · obtain ⟨hd, rfl⟩ : decode cc pc = .ok (.ladd, 1) ∧ nx = pc + 1 := of_decide_eq_true hdec
    intro hn H locs la hP hD hS hl
    have K := hgo _ _ _ _ _ hr9 h hn H locs la hP hD hS hl
    simp only [List.map_cons, q_cv, Int64.ofInt_add] at K ⊢
    exact lv_ladd hx hb hd K
  · obtain ⟨hd, rfl⟩ : decode cc pc = .ok (.lsub, 1) ∧ nx = pc + 1 := of_decide_eq_true hdec
    intro hn H locs la hP hD hS hl
    have K := hgo _ _ _ _ _ hr9 h hn H locs la hP hD hS hl
    simp only [List.map_cons, q_cv, Int64.ofInt_sub] at K ⊢
    exact lv_lsub hx hb hd K
  · obtain ⟨hd, rfl⟩ : decode cc pc = .ok (.lmul, 1) ∧ nx = pc + 1 := of_decide_eq_true hdec
    intro hn H locs la hP hD hS hl
    have K := hgo _ _ _ _ _ hr9 h hn H locs la hP hD hS hl
    simp only [List.map_cons, q_cv, Int64.ofInt_mul] at K ⊢
    exact lv_lmul hx hb hd K
  · obtain ⟨hd, rfl⟩ : decode cc pc = .ok (.lcmp, 1) ∧ nx = pc + 1 := of_decide_eq_true hdec
    intro hn H locs la hP hD hS hl
    have K := hgo _ _ _ _ _ hr9 h.2 hn H locs la hP hD hS hl
    simp only [List.map_cons, q_cv] at K ⊢
    rw [← q_cmpS h.1.1 h.1.2] at K
    exact W.lcmp hx hb hd K
  · obtain ⟨hd, rfl⟩ : decode cc pc = .ok (.i2l, 1) ∧ nx = pc + 1 := of_decide_eq_true hdec
    intro hn H locs la hP hD hS hl
    exact lv_i2l hx hb hd (q_i2l h.1) (hgo _ _ _ _ _ hr9 h.2 hn H locs la hP hD hS hl)
  · obtain ⟨hd, rfl⟩ : decode cc pc = .ok (.l2i, 1) ∧ nx = pc + 1 := of_decide_eq_true hdec
    intro hn H locs la hP hD hS hl
    exact lv_l2i hx hb hd Int64.toInt32_ofInt (hgo _ _ _ _ _ hr9 h hn H locs la hP hD hS hl)
  · obtain ⟨hd, rfl⟩ : decode cc pc = .ok (.i2c, 1) ∧ nx = pc + 1 := of_decide_eq_true hdec
    intro hn H locs la hP hD hS hl
    exact lv_i2c hx hb hd (q_i2c h.1.1 h.1.2) (hgo _ _ _ _ _ hr9 h.2 hn H locs la hP hD hS hl)
  · obtain ⟨hd, rfl⟩ : decode cc pc = .ok (.dup, 1) ∧ nx = pc + 1 := of_decide_eq_true hdec
    intro hn H locs la hP hD hS hl
    exact lv_dup hx hb hd (by rw [q_ctv]; exact h.1) (hgo _ _ _ _ _ hr9 h.2 hn H locs la hP hD hS hl)
  · obtain ⟨hd, rfl⟩ : decode cc pc = .ok (.dup2, 1) ∧ nx = pc + 1 := of_decide_eq_true hdec
    intro hn H locs la hP hD hS hl
    exact lv_dup2_11 hx hb hd (by rw [q_ctv]; exact h.1.1) (by rw [q_ctv]; exact h.1.2) (hgo _ _ _ _ _ hr9 h.2 hn H locs la hP hD hS hl)
  · obtain ⟨hd, rfl⟩ : decode cc pc = .ok (.ifCond .eq _, 3) ∧ nx = pc + 3 := of_decide_eq_true hdec
    have ht := of_decide_eq_true htgt
    obtain ⟨⟨x9, t9⟩, rfl⟩ : ∃ q, tg = [q] := by
      cases tg with
      | nil => cases ht
      | cons q t =>
        cases t with
        | nil => exact ⟨q, rfl⟩
        | cons q2 t => exact absurd (congrArg List.length ht) (by simp)
    have ht : (t9 : Int) = (pc : Int) + _ := (List.cons.inj ht).1
    intro hn H locs la hP hD hS hl
    have hiff := q_eq0 h.1
    exact lv_if_eq hx hb hd ht.symm (fun c9 => hgo [] t9 _ _ _ rfl (h.2.1 (by rw [hiff] at c9; exact c9)) hn H locs la hP hD hS hl) (fun c9 => hgo _ _ _ _ _ hr9 (h.2.2 (by rw [hiff] at c9; exact c9)) hn H locs la hP hD hS hl)
  · obtain ⟨hd, rfl⟩ : decode cc pc = .ok (.ifCond .ne _, 3) ∧ nx = pc + 3 := of_decide_eq_true hdec
    have ht := of_decide_eq_true htgt
    obtain ⟨⟨x9, t9⟩, rfl⟩ : ∃ q, tg = [q] := by
      cases tg with
      | nil => cases ht
      | cons q t =>
        cases t with
        | nil => exact ⟨q, rfl⟩
        | cons q2 t => exact absurd (congrArg List.length ht) (by simp)
    have ht : (t9 : Int) = (pc : Int) + _ := (List.cons.inj ht).1
    intro hn H locs la hP hD hS hl
    have hiff := q_eq0 h.1
    exact lv_if_ne hx hb hd ht.symm (fun c9 => hgo [] t9 _ _ _ rfl (h.2.1 (by rw [hiff] at c9; exact c9)) hn H locs la hP hD hS hl) (fun c9 => hgo _ _ _ _ _ hr9 (h.2.2 (by rw [hiff] at c9; exact c9)) hn H locs la hP hD hS hl)
  · obtain ⟨hd, rfl⟩ : decode cc pc = .ok (.ifCond .lt _, 3) ∧ nx = pc + 3 := of_decide_eq_true hdec
    have ht := of_decide_eq_true htgt
    obtain ⟨⟨x9, t9⟩, rfl⟩ : ∃ q, tg = [q] := by
      cases tg with
      | nil => cases ht
      | cons q t =>
        cases t with
        | nil => exact ⟨q, rfl⟩
        | cons q2 t => exact absurd (congrArg List.length ht) (by simp)
    have ht : (t9 : Int) = (pc : Int) + _ := (List.cons.inj ht).1
    intro hn H locs la hP hD hS hl
    have hiff := q_lt0 h.1
    exact lv_if_lt hx hb hd ht.symm (fun c9 => hgo [] t9 _ _ _ rfl (h.2.1 (by rw [hiff] at c9; exact c9)) hn H locs la hP hD hS hl) (fun c9 => hgo _ _ _ _ _ hr9 (h.2.2 (by rw [hiff] at c9; exact c9)) hn H locs la hP hD hS hl)
  · obtain ⟨hd, rfl⟩ : decode cc pc = .ok (.ifCond .ge _, 3) ∧ nx = pc + 3 := of_decide_eq_true hdec
    have ht := of_decide_eq_true htgt
    obtain ⟨⟨x9, t9⟩, rfl⟩ : ∃ q, tg = [q] := by
      cases tg with
      | nil => cases ht
      | cons q t =>
        cases t with
        | nil => exact ⟨q, rfl⟩
        | cons q2 t => exact absurd (congrArg List.length ht) (by simp)
    have ht : (t9 : Int) = (pc : Int) + _ := (List.cons.inj ht).1
    intro hn H locs la hP hD hS hl
    have hiff := q_ge0 h.1
    exact lv_if_ge hx hb hd ht.symm (fun c9 => hgo [] t9 _ _ _ rfl (h.2.1 (by rw [hiff] at c9; exact c9)) hn H locs la hP hD hS hl) (fun c9 => hgo _ _ _ _ _ hr9 (h.2.2 (by rw [hiff] at c9; exact c9)) hn H locs la hP hD hS hl)
  · obtain ⟨hd, rfl⟩ : decode cc pc = .ok (.ifCond .gt _, 3) ∧ nx = pc + 3 := of_decide_eq_true hdec
    have ht := of_decide_eq_true htgt
    obtain ⟨⟨x9, t9⟩, rfl⟩ : ∃ q, tg = [q] := by
      cases tg with
      | nil => cases ht
      | cons q t =>
        cases t with
        | nil => exact ⟨q, rfl⟩
        | cons q2 t => exact absurd (congrArg List.length ht) (by simp)
    have ht : (t9 : Int) = (pc : Int) + _ := (List.cons.inj ht).1
    intro hn H locs la hP hD hS hl
    have hiff := q_gt0 h.1
    exact lv_if_gt hx hb hd ht.symm (fun c9 => hgo [] t9 _ _ _ rfl (h.2.1 (by rw [hiff] at c9; exact c9)) hn H locs la hP hD hS hl) (fun c9 => hgo _ _ _ _ _ hr9 (h.2.2 (by rw [hiff] at c9; exact c9)) hn H locs la hP hD hS hl)
  · obtain ⟨hd, rfl⟩ : decode cc pc = .ok (.ifCond .le _, 3) ∧ nx = pc + 3 := of_decide_eq_true hdec
    have ht := of_decide_eq_true htgt
    obtain ⟨⟨x9, t9⟩, rfl⟩ : ∃ q, tg = [q] := by
      cases tg with
      | nil => cases ht
      | cons q t =>
        cases t with
        | nil => exact ⟨q, rfl⟩
        | cons q2 t => exact absurd (congrArg List.length ht) (by simp)
    have ht : (t9 : Int) = (pc : Int) + _ := (List.cons.inj ht).1
    intro hn H locs la hP hD hS hl
    have hiff := q_le0 h.1
    exact lv_if_le hx hb hd ht.symm (fun c9 => hgo [] t9 _ _ _ rfl (h.2.1 (by rw [hiff] at c9; exact c9)) hn H locs la hP hD hS hl) (fun c9 => hgo _ _ _ _ _ hr9 (h.2.2 (by rw [hiff] at c9; exact c9)) hn H locs la hP hD hS hl)
  · obtain ⟨hd, rfl⟩ : decode cc pc = .ok (.if_icmp .eq _, 3) ∧ nx = pc + 3 := of_decide_eq_true hdec
    have ht := of_decide_eq_true htgt
    obtain ⟨⟨x9, t9⟩, rfl⟩ : ∃ q, tg = [q] := by
      cases tg with
      | nil => cases ht
      | cons q t =>
        cases t with
        | nil => exact ⟨q, rfl⟩
        | cons q2 t => exact absurd (congrArg List.length ht) (by simp)
    have ht : (t9 : Int) = (pc : Int) + _ := (List.cons.inj ht).1
    intro hn H locs la hP hD hS hl
    have hiff := q_eq h.1.1 h.1.2
    exact lv_icmp_eq hx hb hd ht.symm (fun c9 => hgo [] t9 _ _ _ rfl (h.2.1 (by first | exact hiff.mp c9 | (rw [hiff] at c9; exact c9))) hn H locs la hP hD hS hl) (fun c9 => hgo _ _ _ _ _ hr9 (h.2.2 (by first | exact hiff.mp c9 | (rw [hiff] at c9; exact c9))) hn H locs la hP hD hS hl)
  · obtain ⟨hd, rfl⟩ : decode cc pc = .ok (.if_icmp .ne _, 3) ∧ nx = pc + 3 := of_decide_eq_true hdec
    have ht := of_decide_eq_true htgt
    obtain ⟨⟨x9, t9⟩, rfl⟩ : ∃ q, tg = [q] := by
      cases tg with
      | nil => cases ht
      | cons q t =>
        cases t with
        | nil => exact ⟨q, rfl⟩
        | cons q2 t => exact absurd (congrArg List.length ht) (by simp)
    have ht : (t9 : Int) = (pc : Int) + _ := (List.cons.inj ht).1
    intro hn H locs la hP hD hS hl
    have hiff := q_eq h.1.1 h.1.2
    exact lv_icmp_ne hx hb hd ht.symm (fun c9 => hgo [] t9 _ _ _ rfl (h.2.1 (by first | exact hiff.mp c9 | (rw [hiff] at c9; exact c9))) hn H locs la hP hD hS hl) (fun c9 => hgo _ _ _ _ _ hr9 (h.2.2 (by first | exact hiff.mp c9 | (rw [hiff] at c9; exact c9))) hn H locs la hP hD hS hl)
  · obtain ⟨hd, rfl⟩ : decode cc pc = .ok (.if_icmp .lt _, 3) ∧ nx = pc + 3 := of_decide_eq_true hdec
    have ht := of_decide_eq_true htgt
    obtain ⟨⟨x9, t9⟩, rfl⟩ : ∃ q, tg = [q] := by
      cases tg with
      | nil => cases ht
      | cons q t =>
        cases t with
        | nil => exact ⟨q, rfl⟩
        | cons q2 t => exact absurd (congrArg List.length ht) (by simp)
    have ht : (t9 : Int) = (pc : Int) + _ := (List.cons.inj ht).1
    intro hn H locs la hP hD hS hl
    have hiff := q_lt h.1.1 h.1.2
    exact lv_icmp_lt hx hb hd ht.symm (fun c9 => hgo [] t9 _ _ _ rfl (h.2.1 (by first | exact hiff.mp c9 | (rw [hiff] at c9; exact c9))) hn H locs la hP hD hS hl) (fun c9 => hgo _ _ _ _ _ hr9 (h.2.2 (by first | exact hiff.mp c9 | (rw [hiff] at c9; exact c9))) hn H locs la hP hD hS hl)
  · obtain ⟨hd, rfl⟩ : decode cc pc = .ok (.if_icmp .ge _, 3) ∧ nx = pc + 3 := of_decide_eq_true hdec
    have ht := of_decide_eq_true htgt
    obtain ⟨⟨x9, t9⟩, rfl⟩ : ∃ q, tg = [q] := by
      cases tg with
      | nil => cases ht
      | cons q t =>
        cases t with
        | nil => exact ⟨q, rfl⟩
        | cons q2 t => exact absurd (congrArg List.length ht) (by simp)
    have ht : (t9 : Int) = (pc : Int) + _ := (List.cons.inj ht).1
    intro hn H locs la hP hD hS hl
    have hiff := q_le h.1.2 h.1.1
    exact lv_icmp_ge hx hb hd ht.symm (fun c9 => hgo [] t9 _ _ _ rfl (h.2.1 (by first | exact hiff.mp c9 | (rw [hiff] at c9; exact c9))) hn H locs la hP hD hS hl) (fun c9 => hgo _ _ _ _ _ hr9 (h.2.2 (by first | exact hiff.mp c9 | (rw [hiff] at c9; exact c9))) hn H locs la hP hD hS hl)
  · obtain ⟨hd, rfl⟩ : decode cc pc = .ok (.if_icmp .gt _, 3) ∧ nx = pc + 3 := of_decide_eq_true hdec
    have ht := of_decide_eq_true htgt
    obtain ⟨⟨x9, t9⟩, rfl⟩ : ∃ q, tg = [q] := by
      cases tg with
      | nil => cases ht
      | cons q t =>
        cases t with
        | nil => exact ⟨q, rfl⟩
        | cons q2 t => exact absurd (congrArg List.length ht) (by simp)
    have ht : (t9 : Int) = (pc : Int) + _ := (List.cons.inj ht).1
    intro hn H locs la hP hD hS hl
    have hiff := q_lt h.1.2 h.1.1
    exact lv_icmp_gt hx hb hd ht.symm (fun c9 => hgo [] t9 _ _ _ rfl (h.2.1 (by first | exact hiff.mp c9 | (rw [hiff] at c9; exact c9))) hn H locs la hP hD hS hl) (fun c9 => hgo _ _ _ _ _ hr9 (h.2.2 (by first | exact hiff.mp c9 | (rw [hiff] at c9; exact c9))) hn H locs la hP hD hS hl)
  · obtain ⟨hd, rfl⟩ : decode cc pc = .ok (.if_icmp .le _, 3) ∧ nx = pc + 3 := of_decide_eq_true hdec
    have ht := of_decide_eq_true htgt
    obtain ⟨⟨x9, t9⟩, rfl⟩ : ∃ q, tg = [q] := by
      cases tg with
      | nil => cases ht
      | cons q t =>
        cases t with
        | nil => exact ⟨q, rfl⟩
        | cons q2 t => exact absurd (congrArg List.length ht) (by simp)
    have ht : (t9 : Int) = (pc : Int) + _ := (List.cons.inj ht).1
    intro hn H locs la hP hD hS hl
    have hiff := q_le h.1.1 h.1.2
    exact lv_icmp_le hx hb hd ht.symm (fun c9 => hgo [] t9 _ _ _ rfl (h.2.1 (by first | exact hiff.mp c9 | (rw [hiff] at c9; exact c9))) hn H locs la hP hD hS hl) (fun c9 => hgo _ _ _ _ _ hr9 (h.2.2 (by first | exact hiff.mp c9 | (rw [hiff] at c9; exact c9))) hn H locs la hP hD hS hl)
  · obtain ⟨hd, rfl⟩ : decode cc pc = .ok (.goto _, 3) ∧ nx = pc + 3 := of_decide_eq_true hdec
    have ht := of_decide_eq_true htgt
    obtain ⟨⟨x9, t9⟩, rfl⟩ : ∃ q, tg = [q] := by
      cases tg with
      | nil => cases ht
      | cons q t =>
        cases t with
        | nil => exact ⟨q, rfl⟩
        | cons q2 t => exact absurd (congrArg List.length ht) (by simp)
    have ht : (t9 : Int) = (pc : Int) + _ := (List.cons.inj ht).1
    intro hn H locs la hP hD hS hl
    exact lv_goto hx hb hd ht.symm (hgo [] t9 _ _ _ rfl h hn H locs la hP hD hS hl)
  · have hd := of_decide_eq_true hdec
    have ht := of_decide_eq_true htgt
    intro hn H locs la hP hD hS hl
    have e9 := q_ti h.1
    rcases q_tabS ht h.2 with ⟨t, off, c1, c2, c3, c4, c5⟩ | ⟨t, c1, c2, c3⟩
    · exact lv_tableIn hx hb hd (by rw [e9]; exact c1) (by rw [e9]; exact c2) (by rw [e9]; exact c3) c4 (hgo [] t _ _ _ rfl c5 hn H locs la hP hD hS hl)
    · exact lv_tableOut hx hb hd (by rw [e9]; exact c1) c2 (hgo [] t _ _ _ rfl c3 hn H locs la hP hD hS hl)
  · have hd := of_decide_eq_true hdec
    have ht := of_decide_eq_true htgt
    intro hn H locs la hP hD hS hl
    have e9 := q_ti h.1
    obtain ⟨t, off, c1, c2, c3⟩ := q_lkS _ _ ht.1 h.2
    exact lv_lookup hx hb hd ht.2 (by rw [e9]; exact c1) c2 (hgo [] t _ _ _ rfl c3 hn H locs la hP hD hS hl)
  · obtain ⟨hd, rfl⟩ : decode cc pc = .ok (.ireturn, 1) ∧ nx = pc + 1 := of_decide_eq_true hdec
    intro hn H locs la hP hD hS hl
    obtain ⟨h1, h2⟩ := h
    have hq : ∀ t : State, t.heap = H → s.WarmedH t.vm → q_Qc T N ad D cy A Rt args s (.returned (some (q_cv ad (.inl _)))) t := fun t ht hW => ⟨⟨some _, μ, rfl, h2, by rw [ht]; exact hP⟩, hS.F ht⟩
    unfold q_rk at h1
    split at h1
    · exact W.iret hx hb hr hq hS.2.2 hd
    · exact W.zret hx hb hr (by rcases h1 with rfl | rfl <;> rfl) hq hS.2.2 hd
    · exact W.zret hx hb hr (by
        have := q_nc h1.1 h1.2
        show Value.int (vp_nar .char _) = _
        rw [this]) hq hS.2.2 hd
    · exact h1.elim
  · obtain ⟨hd, rfl⟩ : decode cc pc = .ok (.areturn, 1) ∧ nx = pc + 1 := of_decide_eq_true hdec
    intro hn H locs la hP hD hS hl
    obtain ⟨rfl, h0, h2⟩ := h
    obtain ⟨n9, hr⟩ := hr
    rw [List.map_cons, q_refv h0]
    exact W.aret hx hb hr (Or.inl ⟨_, rfl⟩) (Or.inr ⟨_, rfl⟩) (fun t ht hW => ⟨⟨some _, μ, by rw [Option.map_some, q_refv h0], h2, by rw [ht]; exact hP⟩, hS.F ht⟩) hS.2.2 hd
  · obtain ⟨hd, rfl⟩ : decode cc pc = .ok (.return_, 1) ∧ nx = pc + 1 := of_decide_eq_true hdec
    intro hn H locs la hP hD hS hl
    obtain ⟨rfl, h2⟩ := h
    exact W.vret hx hb hr (fun t ht hW => ⟨⟨none, μ, rfl, h2, by rw [ht]; exact hP⟩, hS.F ht⟩) hS.2.2 hd
  · obtain ⟨hd, rfl⟩ : decode cc pc = .ok (.getfield _, 3) ∧ nx = pc + 3 := of_decide_eq_true hdec
    refine q_fget F hf (of_decide_eq_true huse) hd ?_
    unfold q_fd at h ⊢
    split at h
    · refine ⟨h.1, ?_⟩
      have h2 := h.2
      split at h2
      · exact hgo _ _ _ _ _ hr9 h2
      · exact h2.elim
    · exact h.elim
  · obtain ⟨hd, rfl⟩ : decode cc pc = .ok (.putfield _, 3) ∧ nx = pc + 3 := of_decide_eq_true hdec
    have hu := of_decide_eq_true huse
    refine q_fput F hf hg hu.1 hu.2 hd ?_
    unfold q_fd at h ⊢
    split at h
    · refine ⟨h.1, ?_⟩
      have h2 := h.2
      split at h2
      · exact q_pfz h2 (fun z hz => hgo _ _ _ _ _ hr9 hz)
      · exact h2.elim
    · exact h.elim
  · obtain ⟨hd, rfl⟩ : decode cc pc = .ok (.iaload, 1) ∧ nx = pc + 1 := of_decide_eq_true hdec
    refine q_aload F (Or.inl ⟨rfl, hd⟩) ?_
    unfold q_ar at h ⊢
    split at h
    · exact ⟨h.1, h.2.1, h.2.2.1, h.2.2.2.1, hgo _ _ _ _ _ hr9 h.2.2.2.2⟩
    · exact h.elim
  · obtain ⟨hd, rfl⟩ : decode cc pc = .ok (.laload, 1) ∧ nx = pc + 1 := of_decide_eq_true hdec
    refine q_aloadL F hd ?_
    unfold q_ar at h ⊢
    split at h
    · exact ⟨h.1, h.2.1, h.2.2.1, h.2.2.2.1, hgo _ _ _ _ _ hr9 h.2.2.2.2⟩
    · exact h.elim
  · obtain ⟨hd, rfl⟩ : decode cc pc = .ok (.baload, 1) ∧ nx = pc + 1 := of_decide_eq_true hdec
    refine q_aload F (Or.inr (Or.inl ⟨rfl, hd⟩)) ?_
    unfold q_ar at h ⊢
    split at h
    · exact ⟨h.1, h.2.1, h.2.2.1, h.2.2.2.1, hgo _ _ _ _ _ hr9 h.2.2.2.2⟩
    · exact h.elim
  · obtain ⟨hd, rfl⟩ : decode cc pc = .ok (.caload, 1) ∧ nx = pc + 1 := of_decide_eq_true hdec
    refine q_aload F (Or.inr (Or.inr ⟨rfl, hd⟩)) ?_
    unfold q_ar at h ⊢
    split at h
    · exact ⟨h.1, h.2.1, h.2.2.1, h.2.2.2.1, hgo _ _ _ _ _ hr9 h.2.2.2.2⟩
    · exact h.elim
  · obtain ⟨hd, rfl⟩ : decode cc pc = .ok (.aaload, 1) ∧ nx = pc + 1 := of_decide_eq_true hdec
    refine q_aloadA F hd ?_
    unfold q_aa at h ⊢
    split at h
    · exact ⟨h.1, h.2.1, h.2.2.1, h.2.2.2.1, h.2.2.2.2.1, hgo _ _ _ _ _ hr9 h.2.2.2.2.2⟩
    · exact h.elim
  · obtain ⟨hd, rfl⟩ : decode cc pc = .ok (.iastore, 1) ∧ nx = pc + 1 := of_decide_eq_true hdec
    refine q_ast F (Or.inl ⟨rfl, hd⟩) ?_
    unfold q_ar at h ⊢
    split at h
    · exact ⟨h.1, h.2.1, h.2.2.1, h.2.2.2.1, hgo _ _ _ _ _ hr9 h.2.2.2.2⟩
    · exact h.elim
  · obtain ⟨hd, rfl⟩ : decode cc pc = .ok (.lastore, 1) ∧ nx = pc + 1 := of_decide_eq_true hdec
    refine q_astL F hd ?_
    unfold q_ar at h ⊢
    split at h
    · exact ⟨h.1, h.2.1, h.2.2.1, h.2.2.2.1, hgo _ _ _ _ _ hr9 h.2.2.2.2⟩
    · exact h.elim
  · obtain ⟨hd, rfl⟩ : decode cc pc = .ok (.bastore, 1) ∧ nx = pc + 1 := of_decide_eq_true hdec
    unfold q_ar at h
    split at h
    · rename_i hTa
      refine q_ast F (Or.inr (Or.inl ⟨h.2.2.2.2.1, rfl, hd⟩)) ?_
      unfold q_ar
      rw [hTa]
      exact ⟨h.1, h.2.1, h.2.2.1, h.2.2.2.1, hgo _ _ _ _ _ hr9 h.2.2.2.2.2⟩
    · exact h.elim
  · obtain ⟨hd, rfl⟩ : decode cc pc = .ok (.castore, 1) ∧ nx = pc + 1 := of_decide_eq_true hdec
    unfold q_ar at h
    split at h
    · rename_i hTa
      refine q_ast F (Or.inr (Or.inr ⟨h.2.2.2.2.1, rfl, hd⟩)) ?_
      unfold q_ar
      rw [hTa]
      exact ⟨h.1, h.2.1, h.2.2.1, h.2.2.2.1, hgo _ _ _ _ _ hr9 h.2.2.2.2.2⟩
    · exact h.elim
  · obtain ⟨hd, rfl⟩ : decode cc pc = .ok (.arraylength, 1) ∧ nx = pc + 1 := of_decide_eq_true hdec
    refine q_alen F hd ?_
    unfold q_al at h ⊢
    split at h
    · exact ⟨h.1, hgo _ _ _ _ _ hr9 h.2⟩
    · exact h.elim
  · obtain ⟨hd, rfl⟩ : decode cc pc = .ok (.invokevirtual _, 3) ∧ nx = pc + 3 := of_decide_eq_true hdec
    exact hcV _ (of_decide_eq_true huse) pc _ _ _ _ hd h.1 h.2.1 h.2.2 (fun o μ9 hk => hgo _ _ _ _ _ hr9 hk)
  · obtain ⟨hd, rfl⟩ : decode cc pc = .ok (.invokestatic _, 3) ∧ nx = pc + 3 := of_decide_eq_true hdec
    exact hcS _ (of_decide_eq_true huse) pc _ _ _ _ hd h.1 h.2.1 h.2.2 (fun o μ9 hk => hgo _ _ _ _ _ hr9 hk)
  · obtain ⟨hd, rfl⟩ : decode cc pc = .ok (.invokespecial _, 3) ∧ nx = pc + 3 := of_decide_eq_true hdec
    exact hcI _ (of_decide_eq_true huse) pc _ _ _ _ hd h.1 h.2.1 h.2.2 (fun o μ9 hk => hgo _ _ _ _ _ hr9 hk)
  · exact h.elim
end QS6
