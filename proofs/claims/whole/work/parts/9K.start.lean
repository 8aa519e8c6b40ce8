/-! the law: what is known at its start -/
def l_Z (ad : Int → Nat) (f : Int) (U : State) : Prop := (∀ q ∈ q_nst, va_Nw (.methodLinkNest q.1 q.2.1 q.2.2.1 q.2.2.2) U) ∧ (∀ q ∈ q_txt, vk_R RX8 q.1 q.2.1 (ad q.2.2) U) ∧ vk_S 15 c_lns c_byt (fun i => ad (1000 + (i : Int))) (fun i => ad (2000 + (i : Int))) (q_A q_N ad) U U.heap ∧ va_Z "java/lang/String" "COMPACT_STRINGS" "Z" (.int 1) (q_A q_N ad) U U.heap ∧ va_Z "jdk/internal/util/Preconditions" "SIOOBE_FORMATTER" "Ljava/util/function/BiFunction;" (q_cv ad (.inr (.inr f))) (q_A q_N ad) U U.heap
theorem l_Zs (ad : Int → Nat) (f : Int) : q_Zs ad (l_Z ad f) := by
  refine ⟨⟨⟨fun s U h hW hsz hk => ?_, fun s U h hv hh => ?_⟩, fun s h => h.1⟩, fun s h => ⟨h.2.1, h.2.2.1, h.2.2.2.1, f, h.2.2.2.2⟩⟩
  · obtain ⟨h1, h2, h3, h4, h5⟩ := h
    exact ⟨fun q hq => va_Nw.warmM hW (h1 q hq), fun q hq => vk_R.warm hW (h2 q hq), (vk_S.moved hW.alike h3).kept hk, (va_Z.moved hW.alike h4).kept hk, (va_Z.moved hW.alike h5).kept hk⟩
  · obtain ⟨h1, h2, h3, h4, h5⟩ := h
    have hA : s.vm.Alike U.vm := by rw [hv]; exact Vm.Alike.refl _
    refine ⟨fun q hq => va_Nw.same rfl hv.symm (h1 q hq), fun q hq => vk_R.same hv (h2 q hq), ?_, ?_, ?_⟩
    · rw [hh]; exact vk_S.moved hA h3
    · rw [hh]; exact va_Z.moved hA h4
    · rw [hh]; exact va_Z.moved hA h5
theorem l_inst : ∀ q ∈ vwCl, Cond.instantiable q.1 q.2.2 ∈ q_tb := by decide +kernel
theorem l_known {s : State} {args : Array Value} (hts : ∀ w ∈ q_tb, w.before args s = true) : ∃ D : va_G, ∀ (k : Nat) (q : vw_C), vwCl[k]? = some q → u_Kn s q.1 q.2.1 q.2.2 (D.1 k) (D.2 k) := by
  have h : ∀ k : Nat, ∃ d : ClassId × (Nat → Nat), ∀ q : vw_C, vwCl[k]? = some q → u_Kn s q.1 q.2.1 q.2.2 d.1 d.2 := by
    intro k
    cases hk : vwCl[k]? with
    | none => exact ⟨(0, fun _ => 0), fun q h => by cases h⟩
    | some q =>
      have hm := List.mem_of_getElem? hk
      obtain ⟨hin, -⟩ := q_cls hm
      obtain ⟨c, i, h⟩ := u_known (n := q.2.2) hts hin (hts _ (l_inst q hm))
      exact ⟨(c, i), fun q' h' => by cases h'; exact h⟩
  obtain ⟨d, hd⟩ := Classical.axiomOfChoice h
  exact ⟨(fun k => (d k).1, fun k => (d k).2), fun k q hq => hd k q hq⟩
theorem l_cy {s : State} {args : Array Value} (hts : ∀ w ∈ lw_tbl, w.before args s = true) : ∃ cy : Nat → ClassId, ∀ (k : Nat) (q : ClassId × FieldType), (q_tys cy)[k]? = some q → ArrOfT s q.1 q.2 ∧ va_RA s q.1 q.2 := by
  obtain ⟨c0, h0⟩ := cy_arr (ty := .int) (hts (.arrayClass .int) (by decide +kernel)) (fun C h => by cases h)
  obtain ⟨c1, h1⟩ := cy_arr (ty := .long) (hts (.arrayClass .long) (by decide +kernel)) (fun C h => by cases h)
  obtain ⟨c2, h2⟩ := cy_arr (ty := .boolean) (hts (.arrayClass .boolean) (by decide +kernel)) (fun C h => by cases h)
  obtain ⟨c3, h3⟩ := cy_arr (ty := .char) (hts (.arrayClass .char) (by decide +kernel)) (fun C h => by cases h)
  obtain ⟨c4, h4⟩ := cy_obj (C := RX4) (s := s) (hts (.arrayOver (.object RX4)) (by decide +kernel))
  obtain ⟨c5, h5⟩ := cy_aoa (s := s) (hts (.arrayOver (.array .int)) (by decide +kernel))
  refine ⟨fun k => [c0, c1, c2, c3, c4, c5].getD k c0, fun k q hq => ?_⟩
  match k, hq with
  | 0, hq => cases hq; exact h0
  | 1, hq => cases hq; exact h1
  | 2, hq => cases hq; exact h2
  | 3, hq => cases hq; exact h3
  | 4, hq => cases hq; exact h4
  | 5, hq => cases hq; exact h5
  | k + 6, hq => exact absurd hq (by simp [q_tys])
theorem l_zc {s : State} {args : Array Value} (hts : ∀ w ∈ lw_tbl, w.before args s = true) : q_Zc s := by
  refine ⟨fun q hq => ?_, hts (.arrayOver (.object RX4)) (by decide +kernel), hts (.arrayOver (.array .int)) (by decide +kernel)⟩
  have hm : ∀ q ∈ q_nst ++ q_ncs, Cond.methodLinkNest q.1 q.2.1 q.2.2.1 q.2.2.2 ∈ lw_tbl := by decide +kernel
  exact va_Nw.of rfl (hts _ (hm q hq))
def l_tm (i : Nat) : Term := .string RX8 (86 + 2 * i)
def l_F : List Cond := flatC (Jvm.Cond.and given_1 narrow_1)
theorem l_m1 : ∀ i, i < 15 → Cond.exactly (l_tm i) "java/lang/String" ∈ l_F := by decide +kernel
theorem l_m2 : ∀ i, i < 15 → Cond.eq (.field (l_tm i) "java/lang/String" "coder" "B") (.int 0) ∈ l_F := by decide +kernel
theorem l_m3 : ∀ i, i < 15 → Cond.arrayOf (.field (l_tm i) "java/lang/String" "value" "[B") .byte ∈ l_F := by decide +kernel
theorem l_m4 : ∀ i, i < 15 → Cond.eq (.length (.field (l_tm i) "java/lang/String" "value" "[B")) (.int (Int32.ofNat (c_lns.getD i 0))) ∈ l_F := by decide +kernel
theorem l_m5 : ∀ i, i < 15 → ∀ j, j < c_lns.getD i 0 → Cond.eq (.elem (.field (l_tm i) "java/lang/String" "value" "[B") (.int (Int32.ofNat j))) (.int ((c_byt.getD i []).getD j 0)) ∈ l_F := by decide +kernel
theorem l_m6_0 : ∀ j, j < 15 → 0 < j → Cond.not (Cond.eq (l_tm 0) (l_tm j)) ∈ l_F := by decide +kernel
theorem l_m6_1 : ∀ j, j < 15 → 1 < j → Cond.not (Cond.eq (l_tm 1) (l_tm j)) ∈ l_F := by decide +kernel
theorem l_m6_2 : ∀ j, j < 15 → 2 < j → Cond.not (Cond.eq (l_tm 2) (l_tm j)) ∈ l_F := by decide +kernel
theorem l_m6_3 : ∀ j, j < 15 → 3 < j → Cond.not (Cond.eq (l_tm 3) (l_tm j)) ∈ l_F := by decide +kernel
theorem l_m6_4 : ∀ j, j < 15 → 4 < j → Cond.not (Cond.eq (l_tm 4) (l_tm j)) ∈ l_F := by decide +kernel
theorem l_m6_5 : ∀ j, j < 15 → 5 < j → Cond.not (Cond.eq (l_tm 5) (l_tm j)) ∈ l_F := by decide +kernel
theorem l_m6_6 : ∀ j, j < 15 → 6 < j → Cond.not (Cond.eq (l_tm 6) (l_tm j)) ∈ l_F := by decide +kernel
theorem l_m6_7 : ∀ j, j < 15 → 7 < j → Cond.not (Cond.eq (l_tm 7) (l_tm j)) ∈ l_F := by decide +kernel
theorem l_m6_8 : ∀ j, j < 15 → 8 < j → Cond.not (Cond.eq (l_tm 8) (l_tm j)) ∈ l_F := by decide +kernel
theorem l_m6_9 : ∀ j, j < 15 → 9 < j → Cond.not (Cond.eq (l_tm 9) (l_tm j)) ∈ l_F := by decide +kernel
theorem l_m6_10 : ∀ j, j < 15 → 10 < j → Cond.not (Cond.eq (l_tm 10) (l_tm j)) ∈ l_F := by decide +kernel
theorem l_m6_11 : ∀ j, j < 15 → 11 < j → Cond.not (Cond.eq (l_tm 11) (l_tm j)) ∈ l_F := by decide +kernel
theorem l_m6_12 : ∀ j, j < 15 → 12 < j → Cond.not (Cond.eq (l_tm 12) (l_tm j)) ∈ l_F := by decide +kernel
theorem l_m6_13 : ∀ j, j < 15 → 13 < j → Cond.not (Cond.eq (l_tm 13) (l_tm j)) ∈ l_F := by decide +kernel
theorem l_m6a {i j : Nat} (hj : j < 15) (hij : i < j) : Cond.not (Cond.eq (l_tm i) (l_tm j)) ∈ l_F := by
  rcases (show i = 0 ∨ i = 1 ∨ i = 2 ∨ i = 3 ∨ i = 4 ∨ i = 5 ∨ i = 6 ∨ i = 7 ∨ i = 8 ∨ i = 9 ∨ i = 10 ∨ i = 11 ∨ i = 12 ∨ i = 13 by omega) with rfl | rfl | rfl | rfl | rfl | rfl | rfl | rfl | rfl | rfl | rfl | rfl | rfl | rfl
  · exact l_m6_0 j hj hij
  · exact l_m6_1 j hj hij
  · exact l_m6_2 j hj hij
  · exact l_m6_3 j hj hij
  · exact l_m6_4 j hj hij
  · exact l_m6_5 j hj hij
  · exact l_m6_6 j hj hij
  · exact l_m6_7 j hj hij
  · exact l_m6_8 j hj hij
  · exact l_m6_9 j hj hij
  · exact l_m6_10 j hj hij
  · exact l_m6_11 j hj hij
  · exact l_m6_12 j hj hij
  · exact l_m6_13 j hj hij
theorem l_m6 : ∀ i, i < 15 → ∀ j, j < 15 → i ≠ j → Cond.not (Cond.eq (l_tm i) (l_tm j)) ∈ l_F ∨ Cond.not (Cond.eq (l_tm j) (l_tm i)) ∈ l_F := by
  intro i hi j hj hij
  rcases Nat.lt_or_gt_of_ne hij with q | q
  · exact Or.inl (l_m6a hj q)
  · exact Or.inr (l_m6a hi q)
theorem l_m7 : Cond.exactly (l_tm 15) "java/lang/String" ∈ l_F := by decide +kernel
theorem l_m8 : Cond.eq (.static "java/lang/String" "COMPACT_STRINGS" "Z") (.int 1) ∈ l_F := by decide +kernel
theorem l_m9 : Cond.isRef (.static "jdk/internal/util/Preconditions" "SIOOBE_FORMATTER" "Ljava/util/function/BiFunction;") ∈ l_F := by decide +kernel
theorem l_tx : ∀ q ∈ q_txt, Cond.stringRef RX8 q.1 q.2.1 ∈ lw_tbl := by decide +kernel
theorem l_txi : ∀ q ∈ q_txt, ∃ i, i < 16 ∧ q.1 = 86 + 2 * i ∧ q.2.2 = 1000 + (i : Int) := by
  intro q hq
  simp only [q_txt, List.mem_cons, List.not_mem_nil, or_false] at hq
  rcases hq with rfl | rfl | rfl | rfl | rfl | rfl | rfl | rfl | rfl | rfl | rfl | rfl | rfl | rfl | rfl | rfl
  · exact ⟨0, by decide, rfl, rfl⟩
  · exact ⟨1, by decide, rfl, rfl⟩
  · exact ⟨2, by decide, rfl, rfl⟩
  · exact ⟨3, by decide, rfl, rfl⟩
  · exact ⟨4, by decide, rfl, rfl⟩
  · exact ⟨5, by decide, rfl, rfl⟩
  · exact ⟨6, by decide, rfl, rfl⟩
  · exact ⟨7, by decide, rfl, rfl⟩
  · exact ⟨8, by decide, rfl, rfl⟩
  · exact ⟨9, by decide, rfl, rfl⟩
  · exact ⟨10, by decide, rfl, rfl⟩
  · exact ⟨11, by decide, rfl, rfl⟩
  · exact ⟨12, by decide, rfl, rfl⟩
  · exact ⟨13, by decide, rfl, rfl⟩
  · exact ⟨14, by decide, rfl, rfl⟩
  · exact ⟨15, by decide, rfl, rfl⟩
/-- the texts and the two statics, before anything is made -/
def l_T0 (s : State) (tk tv : Nat → Nat) (v : Value) : Prop := (∀ i, i < 16 → (l_tm i).eval #[] s none [] s = some (.ref (tk i))) ∧ vk_S 15 c_lns c_byt tk tv (l_A s) s s.heap ∧ va_Z "java/lang/String" "COMPACT_STRINGS" "Z" (.int 1) (l_A s) s s.heap ∧ va_Z "jdk/internal/util/Preconditions" "SIOOBE_FORMATTER" "Ljava/util/function/BiFunction;" v (l_A s) s s.heap ∧ v.isRef = true
theorem l_t0 {s : State} {b : Nat} (hts : ∀ w ∈ lw_tbl, w.before #[Value.ref b] s = true) (hgv : (Jvm.Cond.and given_1 narrow_1).before #[Value.ref b] s = true) : ∃ (tk tv : Nat → Nat) (v : Value), l_T0 s tk tv v := by
  have hs : ∀ w ∈ l_F, w.before #[Value.ref b] s = true := flat_of_before _ hgv
  have hA : ∀ a : Nat, a < s.heap.size → ¬ l_A s a := fun a h1 h2 => absurd h1 (Nat.not_lt.mpr h2)
  obtain ⟨adK, adV, hS, hK⟩ := vk_Sof (N := 15) (tm := l_tm) (len := c_lns) (byt := c_byt) (A := l_A s) (by decide +kernel) (fun i hi => hs _ (l_m1 i hi)) (fun i hi => hs _ (l_m2 i hi)) (fun i hi => hs _ (l_m3 i hi)) (fun i hi => hs _ (l_m4 i hi)) (fun i hi j hj => hs _ (l_m5 i hi j hj)) (fun i j hi hj hij => (l_m6 i hi j hj hij).imp (hs _) (hs _)) hA
  obtain ⟨a15, c9, cA, kA, q1, -⟩ := Cond.exactly_spec (hs _ l_m7)
  obtain ⟨v, hv, hr⟩ := Cond.isRef_spec (hs _ l_m9)
  obtain ⟨tk, htk, h15⟩ : ∃ tk : Nat → Nat, (∀ i, i < 15 → tk i = adK i) ∧ tk 15 = a15 := ⟨fun i => if i = 15 then a15 else adK i, fun i hi => if_neg (by omega), if_pos rfl⟩
  refine ⟨tk, adV, v, fun i hi => ?_, ⟨fun i hi => ?_, fun i j hi hj e => ?_⟩, ?_, ?_, hr⟩
  · by_cases c : i = 15
    · subst c
      rw [h15]
      exact q1
    · rw [htk i (by omega)]
      exact hK i (by omega)
  · rw [htk i hi]
    exact hS.1 i hi
  · rw [htk i hi, htk j hj] at e
    exact hS.2 i j hi hj e
  · exact va_Zof (hts (.laysStatic "java/lang/String" "COMPACT_STRINGS" "Z") (by decide +kernel)) (hts (.initialized "java/lang/String") (by decide +kernel)) (va_eqi (hs _ l_m8)) hA
  · exact va_Zof (hts (.laysStatic "jdk/internal/util/Preconditions" "SIOOBE_FORMATTER" "Ljava/util/function/BiFunction;") (by decide +kernel)) (hts (.initialized "jdk/internal/util/Preconditions") (by decide +kernel)) hv hA
theorem l_adk {x y : Nat} {a : Nat → Nat} {f : Nat → Nat → Nat} {g tk tv : Nat → Nat} {tf i : Nat} (h : i < 1000) : l_ad x y a f g tk tv tf (1000 + (i : Int)) = tk i := by
  unfold l_ad
  rw [if_neg (by omega), if_pos (by omega)]
  congr 1
  omega
theorem l_adv {x y : Nat} {a : Nat → Nat} {f : Nat → Nat → Nat} {g tk tv : Nat → Nat} {tf i : Nat} (h : i < 1000) : l_ad x y a f g tk tv tf (2000 + (i : Int)) = tv i := by
  unfold l_ad
  rw [if_neg (by omega), if_neg (by omega), if_pos (by omega)]
  congr 1
  omega
theorem l_zs {s : State} {b x y : Nat} {a : Nat → Nat} {f : Nat → Nat → Nat} {g tk tv : Nat → Nat} {tf : Nat} {v : Value} {fi : Int} (hts : ∀ w ∈ lw_tbl, w.before #[Value.ref b] s = true) (h0 : l_T0 s tk tv v) (hv : v = q_cv (l_ad x y a f g tk tv tf) (.inr (.inr fi))) (hA : ∀ q, q_A q_N (l_ad x y a f g tk tv tf) q → l_A s q) : l_Z (l_ad x y a f g tk tv tf) fi s := by
  obtain ⟨t1, t2, t3, t4, -⟩ := h0
  refine ⟨fun q hq => (l_zc hts).1 q (List.mem_append_left _ hq), fun q hq => ?_, ?_, t3.narrow hA, ?_⟩
  · obtain ⟨i, i0, e1, e2⟩ := l_txi q hq
    have hw := hts _ (l_tx q hq)
    refine vk_R.of (A := #[Value.ref b]) hw ?_
    rw [e2, l_adk (by omega), e1]
    exact t1 i i0
  · have t2 := t2.narrow hA
    refine ⟨fun i hi => ?_, fun i j hi hj e => ?_⟩
    · have e1 : l_ad x y a f g tk tv tf (1000 + (i : Int)) = tk i := l_adk (by omega)
      have e2 : l_ad x y a f g tk tv tf (2000 + (i : Int)) = tv i := l_adv (by omega)
      show va_O "java/lang/String" (l_ad x y a f g tk tv tf (1000 + (i : Int))) _ s s.heap ∧ va_OF "java/lang/String" "coder" "B" (.int 0) (l_ad x y a f g tk tv tf (1000 + (i : Int))) _ s s.heap ∧ va_OF "java/lang/String" "value" "[B" (.ref (l_ad x y a f g tk tv tf (2000 + (i : Int)))) (l_ad x y a f g tk tv tf (1000 + (i : Int))) _ s s.heap ∧ va_T .byte (l_ad x y a f g tk tv tf (2000 + (i : Int))) (c_lns.getD i 0) (fun j => .int ((c_byt.getD i []).getD j 0)) _ s s.heap
      rw [e1, e2]
      exact t2.1 i hi
    · have e : l_ad x y a f g tk tv tf (1000 + (i : Int)) = l_ad x y a f g tk tv tf (1000 + (j : Int)) := e
      rw [l_adk (by omega), l_adk (by omega)] at e
      exact t2.2 i j hi hj e
  · rw [← hv]
    exact t4.narrow hA

