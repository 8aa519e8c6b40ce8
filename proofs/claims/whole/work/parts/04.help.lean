/-! numbers -/
theorem q_ti {a : Int} (h : q_r a) : (Int32.ofInt a).toInt = a := Int32.toInt_ofInt_of_le (by have := h.1; omega) (by have := h.2; omega)
theorem q_tl {a : Int} (h : q_R a) : (Int64.ofInt a).toInt = a := Int64.toInt_ofInt_of_le (by have := h.1; omega) (by have := h.2; omega)
theorem q_eq {a b : Int} (ha : q_r a) (hb : q_r b) : Int32.ofInt a = Int32.ofInt b ↔ a = b := by rw [← Int32.toInt_inj, q_ti ha, q_ti hb]
theorem q_lt {a b : Int} (ha : q_r a) (hb : q_r b) : Int32.ofInt a < Int32.ofInt b ↔ a < b := by rw [Int32.lt_iff_toInt_lt, q_ti ha, q_ti hb]
theorem q_le {a b : Int} (ha : q_r a) (hb : q_r b) : Int32.ofInt a ≤ Int32.ofInt b ↔ a ≤ b := by rw [Int32.le_iff_toInt_le, q_ti ha, q_ti hb]
theorem q_r0 : q_r 0 := by decide
theorem q_eq0 {a : Int} (ha : q_r a) : Int32.ofInt a = 0 ↔ a = 0 := q_eq ha q_r0
theorem q_lt0 {a : Int} (ha : q_r a) : Int32.ofInt a < 0 ↔ a < 0 := q_lt ha q_r0
theorem q_ge0 {a : Int} (ha : q_r a) : (0 : Int32) ≤ Int32.ofInt a ↔ 0 ≤ a := q_le q_r0 ha
theorem q_gt0 {a : Int} (ha : q_r a) : (0 : Int32) < Int32.ofInt a ↔ 0 < a := q_lt q_r0 ha
theorem q_le0 {a : Int} (ha : q_r a) : Int32.ofInt a ≤ 0 ↔ a ≤ 0 := q_le ha q_r0
theorem q_cl {a : Int} (h0 : 0 ≤ a) (h1 : a ≤ 2147483647) : (Int32.ofInt a).toNatClampNeg = a.toNat := Int32.toNatClampNeg_ofInt_of_le (by omega) (by omega)
theorem q_in {i : Int} {n : Nat} (hn : n ≤ 2147483647) (h0 : 0 ≤ i) (h1 : i < (n : Int)) : vp_in (Int32.ofInt i) n := by
  unfold vp_in
  rw [q_cl h0 (by omega), q_lt0 ⟨by omega, by omega⟩]
  omega
theorem q_nat {i : Int} (h0 : 0 ≤ i) : ((i.toNat : Nat) : Int) = i := Int.toNat_of_nonneg h0
theorem q_cmpS {a b : Int} (ha : q_R a) (hb : q_R b) : lg_cmp (Int64.ofInt a) (Int64.ofInt b) = Int32.ofInt (q_cmp a b) := by
  unfold lg_cmp q_cmp
  have h1 : Int64.ofInt a > Int64.ofInt b ↔ b < a := by
    show Int64.ofInt b < Int64.ofInt a ↔ b < a
    rw [Int64.lt_iff_toInt_lt, q_tl ha, q_tl hb]
  have h2 : Int64.ofInt a = Int64.ofInt b ↔ a = b := by rw [← Int64.toInt_inj, q_tl ha, q_tl hb]
  by_cases c1 : b < a
  · rw [if_pos (h1.mpr c1), if_pos c1]; rfl
  · rw [if_neg (fun q => c1 (h1.mp q)), if_neg c1]
    by_cases c2 : a = b
    · rw [if_pos (h2.mpr c2), if_pos c2]; rfl
    · rw [if_neg (fun q => c2 (h2.mp q)), if_neg c2]; rfl
theorem q_divS {a b : Int} (h : 0 ≤ a ∧ a ≤ 2147483647 ∧ 0 < b ∧ b ≤ 2147483647) : Int32.ofInt a / Int32.ofInt b = Int32.ofInt (a / b) := by
  obtain ⟨h1, h2, h3, h4⟩ := h
  rw [← Int.tdiv_eq_ediv_of_nonneg h1]
  exact (Int32.ofInt_tdiv (by show (-2147483648 : Int) ≤ a; omega) (by show a ≤ (2147483647 : Int); omega) (by show (-2147483648 : Int) ≤ b; omega) (by show b ≤ (2147483647 : Int); omega)).symm
theorem q_remS {a b : Int} (h : 0 ≤ a ∧ a ≤ 2147483647 ∧ 0 < b ∧ b ≤ 2147483647) : Int32.ofInt a - Int32.ofInt a / Int32.ofInt b * Int32.ofInt b = Int32.ofInt (a % b) := by
  rw [q_divS h, ← Int32.ofInt_mul, ← Int32.ofInt_sub]
  congr 1
  have := Int.emod_add_mul_ediv a b
  have h2 := Int.mul_comm b (a / b)
  omega
theorem q_i2l {a : Int} (h : q_r a) : (Int32.ofInt a).toInt64 = Int64.ofInt a := Int32.toInt64_ofInt (by show (-2147483648 : Int) ≤ a; exact h.1) (by show a ≤ (2147483647 : Int); exact h.2)
theorem q_i2c {a : Int} (h0 : 0 ≤ a) (h1 : a < 65536) : ((Int32.ofInt a).toUInt32 % 65536).toInt32 = Int32.ofInt a := by
  have h : (Int32.ofInt a).toInt = a := q_ti ⟨by omega, by omega⟩
  exact lg_i2c_word (by omega) (by omega)
theorem q_bip {v : Int} (h : -128 ≤ v ∧ v < 128) : (Int8.ofInt v).toInt32 = Int32.ofInt v := by
  rw [← Int32.ofInt_int8ToInt, Int8.toInt_ofInt_of_le (by omega) (by omega)]
theorem q_sip {v : Int} (h : -32768 ≤ v ∧ v < 32768) : (Int16.ofInt v).toInt32 = Int32.ofInt v := by
  rw [← Int32.ofInt_int16ToInt, Int16.toInt_ofInt_of_le (by omega) (by omega)]
theorem q_ctv (ad : Int → Nat) (v : QV) : (q_cv ad v).category = q_ct v := by
  rcases v with z | z | z
  · rfl
  · rfl
  · show (va_rf (q_rf ad z)).category = 1
    unfold q_rf
    split <;> rfl
theorem q_catsS (ad : Int → Nat) (st : List QV) : ((st.map (q_cv ad)).map fun v => v.category).sum = q_cats st := by
  unfold q_cats
  rw [List.map_map]
  congr 1
  exact List.map_congr_left (fun v _ => q_ctv ad v)
/-! locals -/
theorem q_lgn : ∀ (ls : QL) (i : Nat) (v : QV), q_lg ls i = some v → i < ls.length
  | [], _, _, h => by cases h
  | _ :: _, 0, _, _ => by simp
  | _ :: t, k + 1, v, h => by
    have := q_lgn t k v h
    simp only [List.length_cons]
    omega
theorem q_mem {ad : Int → Nat} {ls : QL} {i : Nat} {v : QV} (h : q_lg ls i = some v) : (i, q_cv ad v) ∈ q_prs ad ls := by
  unfold q_prs
  refine List.mem_filterMap.mpr ⟨i, List.mem_range.mpr (q_lgn ls i v h), ?_⟩
  rw [h]
  rfl
theorem q_mem2 {ad : Int → Nat} {ls : QL} {q : Nat × Value} (h : q ∈ q_prs ad ls) : ∃ v, q_lg ls q.1 = some v ∧ q.2 = q_cv ad v := by
  unfold q_prs at h
  obtain ⟨i, -, hi⟩ := List.mem_filterMap.mp h
  cases hv : q_lg ls i with
  | none => rw [hv] at hi; cases hi
  | some v => rw [hv] at hi; cases hi; exact ⟨v, hv, rfl⟩
theorem q_clr_some {x : Option QV} {w : QV} (h : q_clr x = some w) : x = some w ∧ ¬ q_ct w = 2 := by
  rcases x with _ | z | z | z
  · cases h
  · cases h; exact ⟨rfl, by simp [q_ct]⟩
  · cases h
  · cases h; exact ⟨rfl, by simp [q_ct]⟩
theorem q_l1g : ∀ (ls : QL) (i : Nat) (v : QV) (j : Nat) (w : QV), q_lg (q_l1 ls i v) j = some w → (j = i ∧ w = v) ∨ (j ≠ i ∧ q_lg ls j = some w ∧ ¬ (j + 1 = i ∧ q_ct w = 2))
  | [], _, _, _, _, h => by cases h
  | x :: t, 0, v, 0, w, h => Or.inl ⟨rfl, by cases h; rfl⟩
  | x :: t, 0, v, j + 1, w, h => Or.inr ⟨by omega, h, by omega⟩
  | x :: t, k + 1, v, 0, w, h => by
    refine Or.inr ⟨by omega, ?_⟩
    cases k with
    | zero =>
      have h1 : q_clr x = some w := h
      obtain ⟨a, b⟩ := q_clr_some h1
      exact ⟨a, fun q => b q.2⟩
    | succ k =>
      have h1 : x = some w := h
      exact ⟨h1, by omega⟩
  | x :: t, k + 1, v, j + 1, w, h => by
    have h1 : q_lg (q_l1 t k v) j = some w := h
    rcases q_l1g t k v j w h1 with ⟨a, b⟩ | ⟨a, b, c⟩
    · exact Or.inl ⟨by omega, b⟩
    · exact Or.inr ⟨by omega, b, by omega⟩
theorem q_l1n : ∀ (ls : QL) (i : Nat) (v : QV), (q_l1 ls i v).length = ls.length
  | [], _, _ => rfl
  | _ :: _, 0, _ => rfl
  | _ :: t, k + 1, v => by
    show (q_l1 t k v).length + 1 = _
    rw [q_l1n t k v]
    rfl
theorem q_drg : ∀ (ls : QL) (j : Nat) (w : QV), q_lg (q_dr ls) j = some w → j ≠ 0 ∧ q_lg ls j = some w
  | [], _, _, h => by cases h
  | x :: t, 0, w, h => by cases h
  | x :: t, j + 1, w, h => ⟨by omega, h⟩
theorem q_drn (ls : QL) : (q_dr ls).length = ls.length := by cases ls <;> rfl
theorem q_l2g : ∀ (ls : QL) (i : Nat) (v : QV) (j : Nat) (w : QV), q_lg (q_l2 ls i v) j = some w → (j = i ∧ w = v) ∨ (j ≠ i ∧ j ≠ i + 1 ∧ q_lg ls j = some w ∧ ¬ (j + 1 = i ∧ q_ct w = 2))
  | [], _, _, _, _, h => by cases h
  | x :: t, 0, v, 0, w, h => Or.inl ⟨rfl, by cases h; rfl⟩
  | x :: t, 0, v, j + 1, w, h => by
    have h1 : q_lg (q_dr t) j = some w := h
    obtain ⟨a, b⟩ := q_drg t j w h1
    exact Or.inr ⟨by omega, by omega, b, by omega⟩
  | x :: t, k + 1, v, 0, w, h => by
    refine Or.inr ⟨by omega, by omega, ?_⟩
    cases k with
    | zero =>
      have h1 : q_clr x = some w := h
      obtain ⟨a, b⟩ := q_clr_some h1
      exact ⟨a, fun q => b q.2⟩
    | succ k =>
      have h1 : x = some w := h
      exact ⟨h1, by omega⟩
  | x :: t, k + 1, v, j + 1, w, h => by
    have h1 : q_lg (q_l2 t k v) j = some w := h
    rcases q_l2g t k v j w h1 with ⟨a, b⟩ | ⟨a, b, c, d⟩
    · exact Or.inl ⟨by omega, b⟩
    · exact Or.inr ⟨by omega, by omega, c, by omega⟩
theorem q_l2n : ∀ (ls : QL) (i : Nat) (v : QV), (q_l2 ls i v).length = ls.length
  | [], _, _ => rfl
  | _ :: t, 0, v => by
    show (q_dr t).length + 1 = _
    rw [q_drn]
    rfl
  | _ :: t, k + 1, v => by
    show (q_l2 t k v).length + 1 = _
    rw [q_l2n t k v]
    rfl
theorem q_get {ad : Int → Nat} {la : Array Slot} {nL : Nat} {ls : QL} {i : Nat} {v : QV} (h : lv_has la nL (q_prs ad ls)) (hv : q_lg ls i = some v) : la[i]? = some (.val (q_cv ad v)) := h.2.2 _ (q_mem hv)
theorem q_put1 {ad : Int → Nat} {la : Array Slot} {nL : Nat} {ls : QL} {i : Nat} {v : QV} (h : lv_has la nL ((i, q_cv ad v) :: (q_prs ad ls).filter (fun q => !(q.1 == i) && !(q.1 + 1 == i && q.2.category == 2)))) : lv_has la nL (q_prs ad (q_l1 ls i v)) := by
  refine ⟨h.1, h.2.1, fun q hq => h.2.2 q ?_⟩
  obtain ⟨w, h1, h2⟩ := q_mem2 hq
  rcases q_l1g ls i v q.1 w h1 with ⟨a, b⟩ | ⟨a, b, c⟩
  · obtain ⟨q1, q2⟩ := q
    cases a; cases b; cases h2
    exact List.mem_cons_self
  · refine List.mem_cons_of_mem _ (List.mem_filter.mpr ⟨?_, ?_⟩)
    · obtain ⟨q1, q2⟩ := q
      cases h2
      exact q_mem b
    · rw [h2, q_ctv]
      simp only [Bool.and_eq_true, Bool.not_eq_true', beq_eq_false_iff_ne, ne_eq, Bool.and_eq_false_imp, beq_iff_eq]
      exact ⟨a, fun e1 e2 => c ⟨e1, e2⟩⟩
theorem q_put2 {ad : Int → Nat} {la : Array Slot} {nL : Nat} {ls : QL} {i : Nat} {v : QV} (h : lv_has la nL ((i, q_cv ad v) :: (q_prs ad ls).filter (fun q => !(q.1 == i) && (!(q.1 == i + 1) && !(q.1 + 1 == i && q.2.category == 2))))) : lv_has la nL (q_prs ad (q_l2 ls i v)) := by
  refine ⟨h.1, h.2.1, fun q hq => h.2.2 q ?_⟩
  obtain ⟨w, h1, h2⟩ := q_mem2 hq
  rcases q_l2g ls i v q.1 w h1 with ⟨a, b⟩ | ⟨a, b, c, d⟩
  · obtain ⟨q1, q2⟩ := q
    cases a; cases b; cases h2
    exact List.mem_cons_self
  · refine List.mem_cons_of_mem _ (List.mem_filter.mpr ⟨?_, ?_⟩)
    · obtain ⟨q1, q2⟩ := q
      cases h2
      exact q_mem c
    · rw [h2, q_ctv]
      simp only [Bool.and_eq_true, Bool.not_eq_true', beq_eq_false_iff_ne, ne_eq, Bool.and_eq_false_imp, beq_iff_eq]
      exact ⟨a, b, fun e1 e2 => d ⟨e1, e2⟩⟩
/-! worlds -/
theorem q_wsg {T : Int → Option QS} {N : List Int} {ad : Int → Nat} {cy : Nat → ClassId} {μ : QM} {a : Int} (h : a ∈ N) : ∃ k : Nat, N[k]? = some a ∧ (q_ws T N ad cy μ)[k]? = some (ad a, q_ent ad cy μ a (T a)) := by
  obtain ⟨k, hk⟩ := List.getElem?_of_mem h
  exact ⟨k, hk, by unfold q_ws; rw [List.getElem?_map, hk]; rfl⟩
theorem q_wss {T : Int → Option QS} {N : List Int} {ad : Int → Nat} {cy : Nat → ClassId} {μ μ' : QM} {a : Int} {k : Nat} {e : va_E} (hN : ∀ (i j : Nat) (a : Int), N[i]? = some a → N[j]? = some a → i = j) (hk : N[k]? = some a) (he : e = q_ent ad cy μ' a (T a)) (ho : ∀ b, b ≠ a → q_ent ad cy μ' b (T b) = q_ent ad cy μ b (T b)) : (q_ws T N ad cy μ).set k (ad a, e) = q_ws T N ad cy μ' := by
  subst he
  have hl : k < N.length := (List.getElem?_eq_some_iff.mp hk).1
  refine List.ext_getElem? fun j => ?_
  unfold q_ws
  by_cases hj : j = k
  · subst hj
    rw [List.getElem?_set_self (by rw [List.length_map]; exact hl), List.getElem?_map, hk]
    rfl
  · rw [List.getElem?_set_ne (Ne.symm hj), List.getElem?_map, List.getElem?_map]
    cases hb : N[j]? with
    | none => rfl
    | some b =>
      have hne : b ≠ a := fun q => hj (hN j k a (by rw [hb, q]) hk)
      show some (ad b, q_ent ad cy μ b (T b)) = some (ad b, q_ent ad cy μ' b (T b))
      rw [ho b hne]
theorem q_upo {ad : Int → Nat} {cy : Nat → ClassId} {μ : QM} {a k z b : Int} (o : Option QS) (h : b ≠ a) : q_ent ad cy (q_up μ a k z) b o = q_ent ad cy μ b o := by
  have e : ∀ j, q_up μ a k z b j = μ b j := fun j => by simp [q_up, h]
  have e1 : ∀ (j : Nat) (sk : QK), q_sv (q_up μ a k z) b j sk = q_sv μ b j sk := by
    intro j sk
    unfold q_sv
    split <;> simp only [e]
  have e2 : ∀ t, q_arr ad (q_up μ a k z) b t = q_arr ad μ b t := by
    intro t
    unfold q_arr
    split <;> simp only [e]
  rcases o with _ | ⟨ci, ks⟩ | ⟨t, n⟩
  · rfl
  · simp only [q_ent, e1]
  · simp only [q_ent, e2]
