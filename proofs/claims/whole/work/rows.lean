section
/-! ===== BEGIN new T[n][m]: the outer array a place, the inner ones among the pooled ===== -/
/-- the word of an array of arrays -/
def va_AOA (ty : FieldType) (U : State) : Prop := (Cond.arrayOver (.array ty)).before #[] U = true
theorem va_AOA.use {ty : FieldType} {A : Array Value} {U : State} (h : va_AOA ty U) : (Cond.arrayOver (.array ty)).before A U = true := h
/-- f, but v at every address of l -/
def vr_up {α : Type} (f : Nat → α) (l : List Nat) (v : α) : Nat → α := fun a => if a ∈ l then v else f a
theorem vr_up_in {α : Type} {f : Nat → α} {l : List Nat} {v : α} {a : Nat} (h : a ∈ l) : vr_up f l v a = v := if_pos h
theorem vr_up_ne {α : Type} {f : Nat → α} {l : List Nat} {v : α} {a : Nat} (h : a ∉ l) : vr_up f l v a = f a := if_neg h
theorem vr_rows {L l : List Nat} {f : Nat → va_E} {e : va_E} (h : ∀ a, a ∈ l → a ∉ L) : va_pl L f ++ l.map (fun a => (a, e)) = va_pl (L ++ l) (vr_up f l e) := by
  unfold va_pl
  rw [List.map_append]
  congr 1
  · apply List.map_congr_left
    intro a ha
    rw [vr_up_ne (fun q => h a q ha)]
  · apply List.map_congr_left
    intro a ha
    rw [vr_up_in ha]
theorem vr_lay {X rows : va_W} {x : Nat × va_E} {pl : va_W} {D : va_G} {cl : List vw_C} {H : Heap} (hP : va_P D cl (((X ++ pl) ++ [x]) ++ rows) H) : va_P D cl ((X ++ [x]) ++ (pl ++ rows)) H := by
  rw [List.append_assoc (X ++ pl)] at hP
  have h := va_P.swap hP
  rw [← List.append_assoc X] at h
  have h2 := va_P.swap h
  rw [List.append_assoc (X ++ [x])] at h2
  exact h2
theorem vr_layD {X rows : va_W} {x : Nat × va_E} {pl : va_W} {A : Nat → Prop} (hD : va_D A (((X ++ pl) ++ [x]) ++ rows)) : va_D A ((X ++ [x]) ++ (pl ++ rows)) := by
  rw [List.append_assoc (X ++ pl)] at hD
  have h := va_D.swap hD
  rw [← List.append_assoc X] at h
  have h2 := va_D.swap h
  rw [List.append_assoc (X ++ [x])] at h2
  exact h2
theorem vr_outer (c : ClassId) (N h0 : Nat) : ∀ i : Nat, Jvm.Free.Multi.outerC c N h0 i = arrV c N (fun j => va_rf (if j < i then some (h0 + 1 + j) else none))
  | 0 => by
    show ({ cls := c, slots := Array.replicate N .null, vm := .none } : Cell) = _
    rw [arrV_new]
    refine congrArg (arrV c N) (funext fun j => ?_)
    simp [va_rf]
  | i + 1 => by
    show (Jvm.Free.Multi.outerC c N h0 i).setSlot i (.ref (h0 + 1 + i)) = _
    rw [vr_outer c N h0 i, arrV_store]
    refine congrArg (arrV c N) (funext fun j => ?_)
    by_cases e : j = i
    · subst e
      simp [updV, va_rf]
    · by_cases h : j < i
      · simp [updV, e, h, Nat.lt_succ_of_lt h]
      · simp [updV, e, h, show ¬ j < i + 1 by omega]
section VGM
variable {p : Program} {l : Launch} {e : Env} {R : Room} {s : State} {m : MethodId} {args : Array Value} {below : List Frame} {meth : Method} {c : Code} {H : Heap} {locs : List Loc} {cells slots : Nat} {Q : State → Prop}
variable {cc : ByteArray} {pc : Nat} {ls : Array Slot} {rest : List Value} {D : va_G} {cl : List vw_C} {A : Nat → Prop} {a : Nat} {tys : List (ClassId × FieldType)} {ws : va_W} {H0 : Heap}
theorem va_mna {X : va_W} {L : List Nat} {f : Nat → va_E} {cc : ByteArray} (hexec : p.tables.exec = Jvm.exec) (hb : c.code = cc) {own : String} {index : Nat} {ty : FieldType} {cy : ClassId} (hown : s.vm.findClass own = some m.cls) (hclink : (Cond.classLink own index ("[" ++ (FieldType.array ty).toString)).before args s = true) (hover : va_AOA ty s) (harr : (Cond.arrayClass ty).before args s = true) (hcy : s.vm.findClass (FieldType.array ty).toString = some cy)
    (hK : va_K D cl tys s) (hP : va_P D cl (X ++ va_pl L f) H) (hD : va_D A (X ++ va_pl L f)) (hS : va_S A H0 H locs) (hA : ∀ q, H0.size ≤ q → A q) {n k : Int32} {N' K' : Nat} {z : vp_A} (hn : ¬ n < 0) (hk : ¬ k < 0) (hN : n.toNatClampNeg = N') (hM : k.toNatClampNeg = K')
    (hb1 : N' * 4 ≤ 536870912) (hb2 : K' * componentBytes ty ≤ 536870912) (hb3 : K' ≤ 536870912) (hdf : fits ty (defaultValue ty) = true) (hdd : (defaultValue ty).isDefault = true) (hcells : cells + (1 + N') ≤ R.cells) (hslots : slots + (N' + N' * K') ≤ R.slots) (hz : ∀ c : ClassId, Jvm.Free.Multi.innerC c K' (defaultValue ty) = vp_cell c z) (hdg : decode cc pc = .ok (.multianewarray index 2, 4))
    (kk : ∀ (q : Nat) (r : Nat → Nat) (cA : ClassId) (H1 : Heap), (∀ i j : Nat, i < N' → j < N' → r i = r j → i = j) → (∀ i : Nat, i < N' → r i ∉ L) → va_K D cl (tys ++ [(cA, .array ty)]) s →
      va_P D cl ((X ++ [(q, .inl (cA, N', .inr (.inr (.inr (.inr (fun i => if i < N' then some (r i) else none))))))]) ++ va_pl (L ++ (List.range N').map r) (vr_up f ((List.range N').map r) (.inl (cy, z)))) H1 → va_D A ((X ++ [(q, .inl (cA, N', .inr (.inr (.inr (.inr (fun i => if i < N' then some (r i) else none))))))]) ++ va_pl (L ++ (List.range N').map r) (vr_up f ((List.range N').map r) (.inl (cy, z)))) → va_S A H0 H1 locs →
      W p l e R s m args below meth c H1 locs (cells + 1 + N') (slots + N' + N' * K') Q (F0 m (pc + 4) ls (.ref q :: rest))) : W p l e R s m args below meth c H locs cells slots Q (F0 m pc ls (.int k :: .int n :: rest)) := by
  subst hN
  subst hM
  intro T hT Xs
  obtain ⟨vm₁, cA, comp, -, fA, fC, hO, -, X', step⟩ := Xs.multianewarray2F hexec hown hclink (va_AOA.use hover) harr (g := F0 m pc ls (.int k :: .int n :: rest)) rfl (by rw [hb]; exact hdg) rfl hn hk hb1 hb2 hb3 hdf hdd hcells hslots
  have ec : some cy = some comp := hcy.symm.trans fC
  cases ec
  generalize hF : Jvm.Free.Multi.fill (T.setVm vm₁) cA cy n.toNatClampNeg k.toNatClampNeg (defaultValue ty) n.toNatClampNeg = F at X' step
  have hTh : (T.setVm vm₁).heap = H := hT
  obtain ⟨f1, f2, -, -⟩ := Jvm.Free.Multi.fill_facts (T.setVm vm₁) cA cy n.toNatClampNeg k.toNatClampNeg (defaultValue ty) n.toNatClampNeg
  rw [hF, hTh] at f1 f2
  have hold : ∀ x : Nat, x < H.size → F.heap[x]? = H[x]? := fun x hx => by
    have := Jvm.Free.Multi.fill_old (T.setVm vm₁) cA cy n.toNatClampNeg k.toNatClampNeg (defaultValue ty) (a := x) (by rw [hTh]; exact hx) n.toNatClampNeg
    rw [hF, hTh] at this
    exact this
  have hrow : ∀ j : Nat, j < n.toNatClampNeg → F.heap[H.size + 1 + j]? = some (vp_cell cy z) := fun j hj => by
    have := Jvm.Free.Multi.fill_inner (T.setVm vm₁) cA cy n.toNatClampNeg k.toNatClampNeg (defaultValue ty) n.toNatClampNeg j hj
    rw [hF, hTh, hz] at this
    exact this
  have hout : Jvm.Free.Multi.outerC cA n.toNatClampNeg H.size n.toNatClampNeg = vp_cell cA (n.toNatClampNeg, .inr (.inr (.inr (.inr (fun i => if i < n.toNatClampNeg then some (H.size + 1 + i) else none))))) := by
    rw [vp_cell_q]
    exact vr_outer cA n.toNatClampNeg H.size n.toNatClampNeg
  rw [hout] at f2
  have hlt : ∀ a, a ∈ L → a < H.size := fun a ha => by
    obtain ⟨k9, hk9⟩ := va_pl_get (X := X) (f := f) ha
    exact (hP k9 _ hk9).lt
  have hnl : ∀ i : Nat, i < n.toNatClampNeg → H.size + 1 + i ∉ L := fun i _ h => by
    have := hlt _ h
    omega
  have hnm : ∀ a, a ∈ (List.range n.toNatClampNeg).map (fun i => H.size + 1 + i) → a ∉ L := fun a ha h => by
    obtain ⟨i, -, rfl⟩ := List.mem_map.mp ha
    have := hlt _ h
    omega
  have hP0 : va_P D cl (X ++ va_pl L f) F.heap := hP.kept (fun k9 x hx => hold x.1 ((hP k9 x hx).lt))
  have hP1 : va_P D cl ((X ++ va_pl L f) ++ [(H.size, .inl (cA, n.toNatClampNeg, .inr (.inr (.inr (.inr (fun i => if i < n.toNatClampNeg then some (H.size + 1 + i) else none))))))]) F.heap := hP0.app (fun k9 x hx => by
    have h0 : k9 < 1 := (List.getElem?_eq_some_iff.mp hx).1
    rw [show k9 = 0 by omega] at hx
    cases hx
    exact f2)
  have hP2 : va_P D cl (((X ++ va_pl L f) ++ [(H.size, .inl (cA, n.toNatClampNeg, .inr (.inr (.inr (.inr (fun i => if i < n.toNatClampNeg then some (H.size + 1 + i) else none))))))]) ++ ((List.range n.toNatClampNeg).map (fun i => H.size + 1 + i)).map (fun a => (a, .inl (cy, z)))) F.heap := hP1.app (fun k9 x hx => by
    obtain ⟨a, ha, rfl⟩ := List.mem_map.mp (List.mem_of_getElem? hx)
    obtain ⟨i, hi, rfl⟩ := List.mem_map.mp ha
    exact hrow i (List.mem_range.mp hi))
  have hD2 : va_D A (((X ++ va_pl L f) ++ [(H.size, .inl (cA, n.toNatClampNeg, .inr (.inr (.inr (.inr (fun i => if i < n.toNatClampNeg then some (H.size + 1 + i) else none))))))]) ++ ((List.range n.toNatClampNeg).map (fun i => H.size + 1 + i)).map (fun a => (a, .inl (cy, z)))) := by
    have hD1 := hD.push (e := .inl (cA, n.toNatClampNeg, .inr (.inr (.inr (.inr (fun i => if i < n.toNatClampNeg then some (H.size + 1 + i) else none)))))) hP rfl (hA _ hS.1)
    generalize hW1 : (X ++ va_pl L f) ++ [(H.size, .inl (cA, n.toNatClampNeg, .inr (.inr (.inr (.inr (fun i => if i < n.toNatClampNeg then some (H.size + 1 + i) else none))))))] = W1 at hD1 hP1 ⊢
    have hle : ∀ (k9 : Nat) (x : Nat × va_E), W1[k9]? = some x → x.1 ≤ H.size := fun k9 x hx => by
      rw [← hW1] at hx
      by_cases hl : k9 < (X ++ va_pl L f).length
      · rw [List.getElem?_append_left hl] at hx
        exact Nat.le_of_lt ((hP k9 x hx).lt)
      · rw [List.getElem?_append_right (by omega)] at hx
        have h0 : k9 - (X ++ va_pl L f).length < 1 := (List.getElem?_eq_some_iff.mp hx).1
        rw [show k9 - (X ++ va_pl L f).length = 0 by omega] at hx
        cases hx
        exact Nat.le_refl _
    have hr : ∀ (k9 : Nat) (x : Nat × va_E), (((List.range n.toNatClampNeg).map (fun i => H.size + 1 + i)).map (fun a => ((a, .inl (cy, z)) : Nat × va_E)))[k9]? = some x → x.1 = H.size + 1 + k9 := fun k9 x hx => by
      rw [List.getElem?_map, List.getElem?_map] at hx
      by_cases h9 : k9 < n.toNatClampNeg
      · rw [List.getElem?_range h9] at hx
        cases hx
        rfl
      · have hn0 : (List.range n.toNatClampNeg)[k9]? = none := List.getElem?_eq_none (by rw [List.length_range]; omega)
        rw [hn0] at hx
        cases hx
    refine ⟨fun i j x y hi hj hxy => ?_, fun k9 x hx => ?_⟩
    · by_cases h1 : i < W1.length <;> by_cases h2 : j < W1.length
      · rw [List.getElem?_append_left h1] at hi
        rw [List.getElem?_append_left h2] at hj
        exact hD1.1 i j x y hi hj hxy
      · rw [List.getElem?_append_left h1] at hi
        rw [List.getElem?_append_right (by omega)] at hj
        have := hle _ _ hi
        have := hr _ _ hj
        omega
      · rw [List.getElem?_append_right (by omega)] at hi
        rw [List.getElem?_append_left h2] at hj
        have := hle _ _ hj
        have := hr _ _ hi
        omega
      · rw [List.getElem?_append_right (by omega)] at hi hj
        have := hr _ _ hi
        have := hr _ _ hj
        omega
    · by_cases h1 : k9 < W1.length
      · rw [List.getElem?_append_left h1] at hx
        exact hD1.2 k9 x hx
      · rw [List.getElem?_append_right (by omega)] at hx
        have := hr _ _ hx
        exact hA _ (by have := hS.1; omega)
  have hAr : ArrOfT s cA (.array ty) := fun N9 z9 => by
    obtain ⟨-, k9, hk9, cm9, hkk9⟩ := (hO 0 0 0).1
    exact ⟨(fun q hq => by cases hq), k9, hk9, cm9, hkk9⟩
  have hK2 : va_K D cl (tys ++ [(cA, .array ty)]) s := ⟨hK.1, fun k9 x hx => by
    by_cases hl : k9 < tys.length
    · rw [List.getElem?_append_left hl] at hx
      exact hK.2 k9 x hx
    · rw [List.getElem?_append_right (by omega)] at hx
      have h0 : k9 - tys.length < 1 := (List.getElem?_eq_some_iff.mp hx).1
      rw [show k9 - tys.length = 0 by omega] at hx
      cases hx
      exact ⟨hAr, fA⟩⟩
  obtain ⟨t, a1, b1⟩ := kk H.size (fun i => H.size + 1 + i) cA F.heap (fun i j _ _ h => by have h9 : H.size + 1 + i = H.size + 1 + j := h; omega) hnl hK2 (by rw [← vr_rows hnm]; exact vr_lay hP2) (by rw [← vr_rows hnm]; exact vr_layD hD2) ⟨by rw [f1]; have := hS.1; omega, fun x h1 h2 => (hold x (Nat.lt_of_lt_of_le h1 hS.1)).trans (hS.2.1 x h1 h2), hS.2.2⟩ F rfl X'
  refine ⟨t, step t ?_, b1⟩
  have e : T.heap.size = H.size := by rw [hT]
  rw [e]
  exact a1
end VGM
end
section
-- ===== PART A: goes FIRST, ahead of the names: the tables' words, and 'selects' of the private methods out of them =====
/-- a private method of a class that the tables say can be made, by its rows of tables_1 -/
def lw_okq (q : MethodName × Nat) : Prop := (q.1.cls ≠ "java/lang/invoke/MethodHandle" ∧ q.1.cls ≠ "java/lang/invoke/VarHandle") ∧ Cond.instantiable q.1.cls q.2 ∈ tables_1 ∧ Cond.privateMethod q.1 ∈ tables_1 ∧ Cond.instanceMethod q.1 ∈ tables_1
theorem lw_p0 : lw_okq (⟨"BoardSums", "refuse", "(I)I"⟩, 9) := ⟨⟨by decide +kernel, by decide +kernel⟩, List.mem_of_getElem? (i := 22) (by decide +kernel), List.mem_of_getElem? (i := 323) (by decide +kernel), List.mem_of_getElem? (i := 324) (by decide +kernel)⟩
theorem lw_p1 : lw_okq (⟨"BoardSums", "accept", "(I)I"⟩, 9) := ⟨⟨by decide +kernel, by decide +kernel⟩, List.mem_of_getElem? (i := 22) (by decide +kernel), List.mem_of_getElem? (i := 330) (by decide +kernel), List.mem_of_getElem? (i := 331) (by decide +kernel)⟩
theorem lw_p2 : lw_okq (⟨"BoardSums", "put", "(III)V"⟩, 9) := ⟨⟨by decide +kernel, by decide +kernel⟩, List.mem_of_getElem? (i := 22) (by decide +kernel), List.mem_of_getElem? (i := 354) (by decide +kernel), List.mem_of_getElem? (i := 355) (by decide +kernel)⟩
theorem lw_p3 : lw_okq (⟨"BoardSums$Works", "tilesFrom", "(LBoardSums$Recipe;II)I"⟩, 7) := ⟨⟨by decide +kernel, by decide +kernel⟩, List.mem_of_getElem? (i := 204) (by decide +kernel), List.mem_of_getElem? (i := 363) (by decide +kernel), List.mem_of_getElem? (i := 364) (by decide +kernel)⟩
theorem lw_p4 : lw_okq (⟨"BoardSums$Works", "across", "(LBoardSums$Recipe;I)I"⟩, 7) := ⟨⟨by decide +kernel, by decide +kernel⟩, List.mem_of_getElem? (i := 204) (by decide +kernel), List.mem_of_getElem? (i := 367) (by decide +kernel), List.mem_of_getElem? (i := 368) (by decide +kernel)⟩
theorem lw_p5 : lw_okq (⟨"BoardSums$Tokens", "isStart", "(I)Z"⟩, 6) := ⟨⟨by decide +kernel, by decide +kernel⟩, List.mem_of_getElem? (i := 172) (by decide +kernel), List.mem_of_getElem? (i := 412) (by decide +kernel), List.mem_of_getElem? (i := 413) (by decide +kernel)⟩
theorem lw_p6 : lw_okq (⟨"BoardSums$Tokens", "holdAt", "(I)V"⟩, 6) := ⟨⟨by decide +kernel, by decide +kernel⟩, List.mem_of_getElem? (i := 172) (by decide +kernel), List.mem_of_getElem? (i := 429) (by decide +kernel), List.mem_of_getElem? (i := 430) (by decide +kernel)⟩
theorem lw_p7 : lw_okq (⟨"BoardSums$Tokens", "holdLetters", "(I)V"⟩, 6) := ⟨⟨by decide +kernel, by decide +kernel⟩, List.mem_of_getElem? (i := 172) (by decide +kernel), List.mem_of_getElem? (i := 433) (by decide +kernel), List.mem_of_getElem? (i := 434) (by decide +kernel)⟩
theorem lw_p8 : lw_okq (⟨"BoardSums$Tokens", "hold", "(III)V"⟩, 6) := ⟨⟨by decide +kernel, by decide +kernel⟩, List.mem_of_getElem? (i := 172) (by decide +kernel), List.mem_of_getElem? (i := 437) (by decide +kernel), List.mem_of_getElem? (i := 438) (by decide +kernel)⟩
theorem lw_p9 : lw_okq (⟨"BoardSums$Tokens", "isSpelled", "(Ljava/lang/String;II)Z"⟩, 6) := ⟨⟨by decide +kernel, by decide +kernel⟩, List.mem_of_getElem? (i := 172) (by decide +kernel), List.mem_of_getElem? (i := 460) (by decide +kernel), List.mem_of_getElem? (i := 461) (by decide +kernel)⟩
theorem lw_p10 : lw_okq (⟨"BoardSums$Tokens", "holdDigits", "(I)V"⟩, 6) := ⟨⟨by decide +kernel, by decide +kernel⟩, List.mem_of_getElem? (i := 172) (by decide +kernel), List.mem_of_getElem? (i := 512) (by decide +kernel), List.mem_of_getElem? (i := 513) (by decide +kernel)⟩
theorem lw_p11 : lw_okq (⟨"BoardSums$Reader", "readBoard", "()Z"⟩, 2) := ⟨⟨by decide +kernel, by decide +kernel⟩, List.mem_of_getElem? (i := 166) (by decide +kernel), List.mem_of_getElem? (i := 520) (by decide +kernel), List.mem_of_getElem? (i := 521) (by decide +kernel)⟩
theorem lw_p12 : lw_okq (⟨"BoardSums$Reader", "readMaking", "(LBoardSums$Recipe;)Z"⟩, 2) := ⟨⟨by decide +kernel, by decide +kernel⟩, List.mem_of_getElem? (i := 166) (by decide +kernel), List.mem_of_getElem? (i := 546) (by decide +kernel), List.mem_of_getElem? (i := 547) (by decide +kernel)⟩
theorem lw_p13 : lw_okq (⟨"BoardSums$Reader", "readNumber", "(LBoardSums$Recipe;II)Z"⟩, 2) := ⟨⟨by decide +kernel, by decide +kernel⟩, List.mem_of_getElem? (i := 166) (by decide +kernel), List.mem_of_getElem? (i := 554) (by decide +kernel), List.mem_of_getElem? (i := 555) (by decide +kernel)⟩
theorem lw_p14 : lw_okq (⟨"BoardSums$Reader", "readNames", "(LBoardSums$Recipe;I)Z"⟩, 2) := ⟨⟨by decide +kernel, by decide +kernel⟩, List.mem_of_getElem? (i := 166) (by decide +kernel), List.mem_of_getElem? (i := 558) (by decide +kernel), List.mem_of_getElem? (i := 559) (by decide +kernel)⟩
theorem lw_p15 : lw_okq (⟨"BoardSums$Reader", "readSigned", "(LBoardSums$Recipe;)Z"⟩, 2) := ⟨⟨by decide +kernel, by decide +kernel⟩, List.mem_of_getElem? (i := 166) (by decide +kernel), List.mem_of_getElem? (i := 566) (by decide +kernel), List.mem_of_getElem? (i := 567) (by decide +kernel)⟩
def lw_privs_1 : List (MethodName × Nat) := [(⟨"BoardSums", "refuse", "(I)I"⟩, 9), (⟨"BoardSums", "accept", "(I)I"⟩, 9), (⟨"BoardSums", "put", "(III)V"⟩, 9), (⟨"BoardSums$Works", "tilesFrom", "(LBoardSums$Recipe;II)I"⟩, 7), (⟨"BoardSums$Works", "across", "(LBoardSums$Recipe;I)I"⟩, 7), (⟨"BoardSums$Tokens", "isStart", "(I)Z"⟩, 6), (⟨"BoardSums$Tokens", "holdAt", "(I)V"⟩, 6), (⟨"BoardSums$Tokens", "holdLetters", "(I)V"⟩, 6), (⟨"BoardSums$Tokens", "hold", "(III)V"⟩, 6), (⟨"BoardSums$Tokens", "isSpelled", "(Ljava/lang/String;II)Z"⟩, 6), (⟨"BoardSums$Tokens", "holdDigits", "(I)V"⟩, 6), (⟨"BoardSums$Reader", "readBoard", "()Z"⟩, 2), (⟨"BoardSums$Reader", "readMaking", "(LBoardSums$Recipe;)Z"⟩, 2), (⟨"BoardSums$Reader", "readNumber", "(LBoardSums$Recipe;II)Z"⟩, 2), (⟨"BoardSums$Reader", "readNames", "(LBoardSums$Recipe;I)Z"⟩, 2), (⟨"BoardSums$Reader", "readSigned", "(LBoardSums$Recipe;)Z"⟩, 2)]
theorem lw_r1 : ∀ q ∈ lw_privs_1, lw_okq q := List.forall_mem_cons.mpr ⟨lw_p0, List.forall_mem_cons.mpr ⟨lw_p1, List.forall_mem_cons.mpr ⟨lw_p2, List.forall_mem_cons.mpr ⟨lw_p3, List.forall_mem_cons.mpr ⟨lw_p4, List.forall_mem_cons.mpr ⟨lw_p5, List.forall_mem_cons.mpr ⟨lw_p6, List.forall_mem_cons.mpr ⟨lw_p7, List.forall_mem_cons.mpr ⟨lw_p8, List.forall_mem_cons.mpr ⟨lw_p9, List.forall_mem_cons.mpr ⟨lw_p10, List.forall_mem_cons.mpr ⟨lw_p11, List.forall_mem_cons.mpr ⟨lw_p12, List.forall_mem_cons.mpr ⟨lw_p13, List.forall_mem_cons.mpr ⟨lw_p14, List.forall_mem_cons.mpr ⟨lw_p15, fun _ h => absurd h List.not_mem_nil⟩⟩⟩⟩⟩⟩⟩⟩⟩⟩⟩⟩⟩⟩⟩⟩
theorem lw_p16 : lw_okq (⟨"BoardSums$Reader", "readHow", "(LBoardSums$Recipe;)Z"⟩, 2) := ⟨⟨by decide +kernel, by decide +kernel⟩, List.mem_of_getElem? (i := 166) (by decide +kernel), List.mem_of_getElem? (i := 571) (by decide +kernel), List.mem_of_getElem? (i := 572) (by decide +kernel)⟩
theorem lw_p17 : lw_okq (⟨"BoardSums$Works", "reachNeeded", "(II)V"⟩, 7) := ⟨⟨by decide +kernel, by decide +kernel⟩, List.mem_of_getElem? (i := 204) (by decide +kernel), List.mem_of_getElem? (i := 613) (by decide +kernel), List.mem_of_getElem? (i := 614) (by decide +kernel)⟩
theorem lw_p18 : lw_okq (⟨"BoardSums$Works", "makeTiles", "(II)V"⟩, 7) := ⟨⟨by decide +kernel, by decide +kernel⟩, List.mem_of_getElem? (i := 204) (by decide +kernel), List.mem_of_getElem? (i := 617) (by decide +kernel), List.mem_of_getElem? (i := 618) (by decide +kernel)⟩
theorem lw_p19 : lw_okq (⟨"BoardSums$Maker", "zones", "(I[I[I[I)V"⟩, 7) := ⟨⟨by decide +kernel, by decide +kernel⟩, List.mem_of_getElem? (i := 211) (by decide +kernel), List.mem_of_getElem? (i := 625) (by decide +kernel), List.mem_of_getElem? (i := 626) (by decide +kernel)⟩
theorem lw_p20 : lw_okq (⟨"BoardSums$Maker", "tallyZone", "([I[II)V"⟩, 7) := ⟨⟨by decide +kernel, by decide +kernel⟩, List.mem_of_getElem? (i := 211) (by decide +kernel), List.mem_of_getElem? (i := 630) (by decide +kernel), List.mem_of_getElem? (i := 631) (by decide +kernel)⟩
theorem lw_p21 : lw_okq (⟨"BoardSums$Maker", "fillZone", "(I[II[I)V"⟩, 7) := ⟨⟨by decide +kernel, by decide +kernel⟩, List.mem_of_getElem? (i := 211) (by decide +kernel), List.mem_of_getElem? (i := 654) (by decide +kernel), List.mem_of_getElem? (i := 655) (by decide +kernel)⟩
theorem lw_p22 : lw_okq (⟨"BoardSums$Maker", "ways", "([I[I[I)V"⟩, 7) := ⟨⟨by decide +kernel, by decide +kernel⟩, List.mem_of_getElem? (i := 211) (by decide +kernel), List.mem_of_getElem? (i := 658) (by decide +kernel), List.mem_of_getElem? (i := 659) (by decide +kernel)⟩
theorem lw_p23 : lw_okq (⟨"BoardSums$Maker", "shorten", "([I[II)Z"⟩, 7) := ⟨⟨by decide +kernel, by decide +kernel⟩, List.mem_of_getElem? (i := 211) (by decide +kernel), List.mem_of_getElem? (i := 662) (by decide +kernel), List.mem_of_getElem? (i := 663) (by decide +kernel)⟩
theorem lw_p24 : lw_okq (⟨"BoardSums$Maker", "flows", "([I[I)V"⟩, 7) := ⟨⟨by decide +kernel, by decide +kernel⟩, List.mem_of_getElem? (i := 211) (by decide +kernel), List.mem_of_getElem? (i := 670) (by decide +kernel), List.mem_of_getElem? (i := 671) (by decide +kernel)⟩
theorem lw_p25 : lw_okq (⟨"BoardSums$Maker", "lowestSide", "([II)I"⟩, 7) := ⟨⟨by decide +kernel, by decide +kernel⟩, List.mem_of_getElem? (i := 211) (by decide +kernel), List.mem_of_getElem? (i := 674) (by decide +kernel), List.mem_of_getElem? (i := 675) (by decide +kernel)⟩
theorem lw_p26 : lw_okq (⟨"BoardSums$Maker", "runDown", "([II)V"⟩, 7) := ⟨⟨by decide +kernel, by decide +kernel⟩, List.mem_of_getElem? (i := 211) (by decide +kernel), List.mem_of_getElem? (i := 678) (by decide +kernel), List.mem_of_getElem? (i := 679) (by decide +kernel)⟩
theorem lw_p27 : lw_okq (⟨"BoardSums$Maker", "near", "(LBoardSums$Recipe;II)I"⟩, 7) := ⟨⟨by decide +kernel, by decide +kernel⟩, List.mem_of_getElem? (i := 211) (by decide +kernel), List.mem_of_getElem? (i := 706) (by decide +kernel), List.mem_of_getElem? (i := 707) (by decide +kernel)⟩
theorem lw_p28 : lw_okq (⟨"BoardSums$Maker", "single", "(LBoardSums$Recipe;I)I"⟩, 7) := ⟨⟨by decide +kernel, by decide +kernel⟩, List.mem_of_getElem? (i := 211) (by decide +kernel), List.mem_of_getElem? (i := 711) (by decide +kernel), List.mem_of_getElem? (i := 712) (by decide +kernel)⟩
theorem lw_p29 : lw_okq (⟨"BoardSums", "bringBack", "(II)I"⟩, 9) := ⟨⟨by decide +kernel, by decide +kernel⟩, List.mem_of_getElem? (i := 22) (by decide +kernel), List.mem_of_getElem? (i := 764) (by decide +kernel), List.mem_of_getElem? (i := 765) (by decide +kernel)⟩
theorem lw_p30 : lw_okq (⟨"BoardSumsModel", "clearSheets", "()V"⟩, 38) := ⟨⟨by decide +kernel, by decide +kernel⟩, List.mem_of_getElem? (i := 781) (by decide +kernel), List.mem_of_getElem? (i := 787) (by decide +kernel), List.mem_of_getElem? (i := 788) (by decide +kernel)⟩
theorem lw_p31 : lw_okq (⟨"BoardSumsModel", "staleAll", "()V"⟩, 38) := ⟨⟨by decide +kernel, by decide +kernel⟩, List.mem_of_getElem? (i := 781) (by decide +kernel), List.mem_of_getElem? (i := 792) (by decide +kernel), List.mem_of_getElem? (i := 793) (by decide +kernel)⟩
def lw_privs_2 : List (MethodName × Nat) := [(⟨"BoardSums$Reader", "readHow", "(LBoardSums$Recipe;)Z"⟩, 2), (⟨"BoardSums$Works", "reachNeeded", "(II)V"⟩, 7), (⟨"BoardSums$Works", "makeTiles", "(II)V"⟩, 7), (⟨"BoardSums$Maker", "zones", "(I[I[I[I)V"⟩, 7), (⟨"BoardSums$Maker", "tallyZone", "([I[II)V"⟩, 7), (⟨"BoardSums$Maker", "fillZone", "(I[II[I)V"⟩, 7), (⟨"BoardSums$Maker", "ways", "([I[I[I)V"⟩, 7), (⟨"BoardSums$Maker", "shorten", "([I[II)Z"⟩, 7), (⟨"BoardSums$Maker", "flows", "([I[I)V"⟩, 7), (⟨"BoardSums$Maker", "lowestSide", "([II)I"⟩, 7), (⟨"BoardSums$Maker", "runDown", "([II)V"⟩, 7), (⟨"BoardSums$Maker", "near", "(LBoardSums$Recipe;II)I"⟩, 7), (⟨"BoardSums$Maker", "single", "(LBoardSums$Recipe;I)I"⟩, 7), (⟨"BoardSums", "bringBack", "(II)I"⟩, 9), (⟨"BoardSumsModel", "clearSheets", "()V"⟩, 38), (⟨"BoardSumsModel", "staleAll", "()V"⟩, 38)]
theorem lw_r2 : ∀ q ∈ lw_privs_2, lw_okq q := List.forall_mem_cons.mpr ⟨lw_p16, List.forall_mem_cons.mpr ⟨lw_p17, List.forall_mem_cons.mpr ⟨lw_p18, List.forall_mem_cons.mpr ⟨lw_p19, List.forall_mem_cons.mpr ⟨lw_p20, List.forall_mem_cons.mpr ⟨lw_p21, List.forall_mem_cons.mpr ⟨lw_p22, List.forall_mem_cons.mpr ⟨lw_p23, List.forall_mem_cons.mpr ⟨lw_p24, List.forall_mem_cons.mpr ⟨lw_p25, List.forall_mem_cons.mpr ⟨lw_p26, List.forall_mem_cons.mpr ⟨lw_p27, List.forall_mem_cons.mpr ⟨lw_p28, List.forall_mem_cons.mpr ⟨lw_p29, List.forall_mem_cons.mpr ⟨lw_p30, List.forall_mem_cons.mpr ⟨lw_p31, fun _ h => absurd h List.not_mem_nil⟩⟩⟩⟩⟩⟩⟩⟩⟩⟩⟩⟩⟩⟩⟩⟩
theorem lw_p32 : lw_okq (⟨"BoardSumsModel", "answer", "(I)I"⟩, 38) := ⟨⟨by decide +kernel, by decide +kernel⟩, List.mem_of_getElem? (i := 781) (by decide +kernel), List.mem_of_getElem? (i := 921) (by decide +kernel), List.mem_of_getElem? (i := 922) (by decide +kernel)⟩
theorem lw_p33 : lw_okq (⟨"BoardSumsModel", "isCell", "(II)Z"⟩, 38) := ⟨⟨by decide +kernel, by decide +kernel⟩, List.mem_of_getElem? (i := 781) (by decide +kernel), List.mem_of_getElem? (i := 932) (by decide +kernel), List.mem_of_getElem? (i := 933) (by decide +kernel)⟩
theorem lw_p34 : lw_okq (⟨"BoardSumsModel", "put", "(IIII)V"⟩, 38) := ⟨⟨by decide +kernel, by decide +kernel⟩, List.mem_of_getElem? (i := 781) (by decide +kernel), List.mem_of_getElem? (i := 936) (by decide +kernel), List.mem_of_getElem? (i := 937) (by decide +kernel)⟩
theorem lw_p35 : lw_okq (⟨"BoardSumsModel", "fromOf", "(III)I"⟩, 38) := ⟨⟨by decide +kernel, by decide +kernel⟩, List.mem_of_getElem? (i := 781) (by decide +kernel), List.mem_of_getElem? (i := 943) (by decide +kernel), List.mem_of_getElem? (i := 944) (by decide +kernel)⟩
theorem lw_p36 : lw_okq (⟨"BoardSumsModel", "findNeeds", "(II)V"⟩, 38) := ⟨⟨by decide +kernel, by decide +kernel⟩, List.mem_of_getElem? (i := 781) (by decide +kernel), List.mem_of_getElem? (i := 947) (by decide +kernel), List.mem_of_getElem? (i := 948) (by decide +kernel)⟩
theorem lw_p37 : lw_okq (⟨"BoardSumsModel", "needOf", "(II)I"⟩, 38) := ⟨⟨by decide +kernel, by decide +kernel⟩, List.mem_of_getElem? (i := 781) (by decide +kernel), List.mem_of_getElem? (i := 951) (by decide +kernel), List.mem_of_getElem? (i := 952) (by decide +kernel)⟩
theorem lw_p38 : lw_okq (⟨"BoardSumsModel", "allTiles", "()I"⟩, 38) := ⟨⟨by decide +kernel, by decide +kernel⟩, List.mem_of_getElem? (i := 781) (by decide +kernel), List.mem_of_getElem? (i := 955) (by decide +kernel), List.mem_of_getElem? (i := 956) (by decide +kernel)⟩
theorem lw_p39 : lw_okq (⟨"BoardSumsModel", "isTile", "(I)Z"⟩, 38) := ⟨⟨by decide +kernel, by decide +kernel⟩, List.mem_of_getElem? (i := 781) (by decide +kernel), List.mem_of_getElem? (i := 959) (by decide +kernel), List.mem_of_getElem? (i := 960) (by decide +kernel)⟩
theorem lw_p40 : lw_okq (⟨"BoardSumsModel", "isBoard", "(I)Z"⟩, 38) := ⟨⟨by decide +kernel, by decide +kernel⟩, List.mem_of_getElem? (i := 781) (by decide +kernel), List.mem_of_getElem? (i := 972) (by decide +kernel), List.mem_of_getElem? (i := 973) (by decide +kernel)⟩
theorem lw_p41 : lw_okq (⟨"BoardSumsModel", "workOut", "(I)V"⟩, 38) := ⟨⟨by decide +kernel, by decide +kernel⟩, List.mem_of_getElem? (i := 781) (by decide +kernel), List.mem_of_getElem? (i := 988) (by decide +kernel), List.mem_of_getElem? (i := 989) (by decide +kernel)⟩
theorem lw_p42 : lw_okq (⟨"BoardSumsModel", "workWay", "(I)V"⟩, 38) := ⟨⟨by decide +kernel, by decide +kernel⟩, List.mem_of_getElem? (i := 781) (by decide +kernel), List.mem_of_getElem? (i := 992) (by decide +kernel), List.mem_of_getElem? (i := 993) (by decide +kernel)⟩
theorem lw_p43 : lw_okq (⟨"BoardSumsModel", "at", "(III)I"⟩, 38) := ⟨⟨by decide +kernel, by decide +kernel⟩, List.mem_of_getElem? (i := 781) (by decide +kernel), List.mem_of_getElem? (i := 996) (by decide +kernel), List.mem_of_getElem? (i := 997) (by decide +kernel)⟩
theorem lw_p44 : lw_okq (⟨"BoardSumsModel", "set", "(IIII)V"⟩, 38) := ⟨⟨by decide +kernel, by decide +kernel⟩, List.mem_of_getElem? (i := 781) (by decide +kernel), List.mem_of_getElem? (i := 1012) (by decide +kernel), List.mem_of_getElem? (i := 1013) (by decide +kernel)⟩
theorem lw_p45 : lw_okq (⟨"BoardSumsModel", "workFlow", "(I)V"⟩, 38) := ⟨⟨by decide +kernel, by decide +kernel⟩, List.mem_of_getElem? (i := 781) (by decide +kernel), List.mem_of_getElem? (i := 1016) (by decide +kernel), List.mem_of_getElem? (i := 1017) (by decide +kernel)⟩
theorem lw_p46 : lw_okq (⟨"BoardSumsModel", "flowOf", "(III)I"⟩, 38) := ⟨⟨by decide +kernel, by decide +kernel⟩, List.mem_of_getElem? (i := 781) (by decide +kernel), List.mem_of_getElem? (i := 1020) (by decide +kernel), List.mem_of_getElem? (i := 1021) (by decide +kernel)⟩
theorem lw_p47 : lw_okq (⟨"BoardSumsModel", "valueOf", "(III)I"⟩, 38) := ⟨⟨by decide +kernel, by decide +kernel⟩, List.mem_of_getElem? (i := 781) (by decide +kernel), List.mem_of_getElem? (i := 1024) (by decide +kernel), List.mem_of_getElem? (i := 1025) (by decide +kernel)⟩
def lw_privs_3 : List (MethodName × Nat) := [(⟨"BoardSumsModel", "answer", "(I)I"⟩, 38), (⟨"BoardSumsModel", "isCell", "(II)Z"⟩, 38), (⟨"BoardSumsModel", "put", "(IIII)V"⟩, 38), (⟨"BoardSumsModel", "fromOf", "(III)I"⟩, 38), (⟨"BoardSumsModel", "findNeeds", "(II)V"⟩, 38), (⟨"BoardSumsModel", "needOf", "(II)I"⟩, 38), (⟨"BoardSumsModel", "allTiles", "()I"⟩, 38), (⟨"BoardSumsModel", "isTile", "(I)Z"⟩, 38), (⟨"BoardSumsModel", "isBoard", "(I)Z"⟩, 38), (⟨"BoardSumsModel", "workOut", "(I)V"⟩, 38), (⟨"BoardSumsModel", "workWay", "(I)V"⟩, 38), (⟨"BoardSumsModel", "at", "(III)I"⟩, 38), (⟨"BoardSumsModel", "set", "(IIII)V"⟩, 38), (⟨"BoardSumsModel", "workFlow", "(I)V"⟩, 38), (⟨"BoardSumsModel", "flowOf", "(III)I"⟩, 38), (⟨"BoardSumsModel", "valueOf", "(III)I"⟩, 38)]
theorem lw_r3 : ∀ q ∈ lw_privs_3, lw_okq q := List.forall_mem_cons.mpr ⟨lw_p32, List.forall_mem_cons.mpr ⟨lw_p33, List.forall_mem_cons.mpr ⟨lw_p34, List.forall_mem_cons.mpr ⟨lw_p35, List.forall_mem_cons.mpr ⟨lw_p36, List.forall_mem_cons.mpr ⟨lw_p37, List.forall_mem_cons.mpr ⟨lw_p38, List.forall_mem_cons.mpr ⟨lw_p39, List.forall_mem_cons.mpr ⟨lw_p40, List.forall_mem_cons.mpr ⟨lw_p41, List.forall_mem_cons.mpr ⟨lw_p42, List.forall_mem_cons.mpr ⟨lw_p43, List.forall_mem_cons.mpr ⟨lw_p44, List.forall_mem_cons.mpr ⟨lw_p45, List.forall_mem_cons.mpr ⟨lw_p46, List.forall_mem_cons.mpr ⟨lw_p47, fun _ h => absurd h List.not_mem_nil⟩⟩⟩⟩⟩⟩⟩⟩⟩⟩⟩⟩⟩⟩⟩⟩
theorem lw_p48 : lw_okq (⟨"BoardSumsModel", "begin", "()V"⟩, 38) := ⟨⟨by decide +kernel, by decide +kernel⟩, List.mem_of_getElem? (i := 781) (by decide +kernel), List.mem_of_getElem? (i := 1028) (by decide +kernel), List.mem_of_getElem? (i := 1029) (by decide +kernel)⟩
theorem lw_p49 : lw_okq (⟨"BoardSumsModel", "take", "(I)V"⟩, 38) := ⟨⟨by decide +kernel, by decide +kernel⟩, List.mem_of_getElem? (i := 781) (by decide +kernel), List.mem_of_getElem? (i := 1032) (by decide +kernel), List.mem_of_getElem? (i := 1033) (by decide +kernel)⟩
theorem lw_p50 : lw_okq (⟨"BoardSumsModel", "taken", "(I)I"⟩, 38) := ⟨⟨by decide +kernel, by decide +kernel⟩, List.mem_of_getElem? (i := 781) (by decide +kernel), List.mem_of_getElem? (i := 1036) (by decide +kernel), List.mem_of_getElem? (i := 1037) (by decide +kernel)⟩
theorem lw_p51 : lw_okq (⟨"BoardSumsModel", "cellOf", "(III)I"⟩, 38) := ⟨⟨by decide +kernel, by decide +kernel⟩, List.mem_of_getElem? (i := 781) (by decide +kernel), List.mem_of_getElem? (i := 1040) (by decide +kernel), List.mem_of_getElem? (i := 1041) (by decide +kernel)⟩
theorem lw_p52 : lw_okq (⟨"BoardSumsModel", "four", "(I)V"⟩, 38) := ⟨⟨by decide +kernel, by decide +kernel⟩, List.mem_of_getElem? (i := 781) (by decide +kernel), List.mem_of_getElem? (i := 1048) (by decide +kernel), List.mem_of_getElem? (i := 1049) (by decide +kernel)⟩
theorem lw_p53 : lw_okq (⟨"BoardSumsModel", "next", "()V"⟩, 38) := ⟨⟨by decide +kernel, by decide +kernel⟩, List.mem_of_getElem? (i := 781) (by decide +kernel), List.mem_of_getElem? (i := 1060) (by decide +kernel), List.mem_of_getElem? (i := 1061) (by decide +kernel)⟩
theorem lw_p54 : lw_okq (⟨"BoardSumsModel", "readBoard", "()V"⟩, 38) := ⟨⟨by decide +kernel, by decide +kernel⟩, List.mem_of_getElem? (i := 781) (by decide +kernel), List.mem_of_getElem? (i := 1074) (by decide +kernel), List.mem_of_getElem? (i := 1075) (by decide +kernel)⟩
theorem lw_p55 : lw_okq (⟨"BoardSumsModel", "isName", "()Z"⟩, 38) := ⟨⟨by decide +kernel, by decide +kernel⟩, List.mem_of_getElem? (i := 781) (by decide +kernel), List.mem_of_getElem? (i := 1078) (by decide +kernel), List.mem_of_getElem? (i := 1079) (by decide +kernel)⟩
theorem lw_p56 : lw_okq (⟨"BoardSumsModel", "must", "(Z)V"⟩, 38) := ⟨⟨by decide +kernel, by decide +kernel⟩, List.mem_of_getElem? (i := 781) (by decide +kernel), List.mem_of_getElem? (i := 1082) (by decide +kernel), List.mem_of_getElem? (i := 1083) (by decide +kernel)⟩
theorem lw_p57 : lw_okq (⟨"BoardSumsModel", "isSign", "(I)Z"⟩, 38) := ⟨⟨by decide +kernel, by decide +kernel⟩, List.mem_of_getElem? (i := 781) (by decide +kernel), List.mem_of_getElem? (i := 1086) (by decide +kernel), List.mem_of_getElem? (i := 1087) (by decide +kernel)⟩
theorem lw_p58 : lw_okq (⟨"BoardSumsModel", "kindAt", "()I"⟩, 38) := ⟨⟨by decide +kernel, by decide +kernel⟩, List.mem_of_getElem? (i := 781) (by decide +kernel), List.mem_of_getElem? (i := 1090) (by decide +kernel), List.mem_of_getElem? (i := 1091) (by decide +kernel)⟩
theorem lw_p59 : lw_okq (⟨"BoardSumsModel", "isWord", "(IIIII)Z"⟩, 38) := ⟨⟨by decide +kernel, by decide +kernel⟩, List.mem_of_getElem? (i := 781) (by decide +kernel), List.mem_of_getElem? (i := 1094) (by decide +kernel), List.mem_of_getElem? (i := 1095) (by decide +kernel)⟩
theorem lw_p60 : lw_okq (⟨"BoardSumsModel", "number", "(JJ)I"⟩, 38) := ⟨⟨by decide +kernel, by decide +kernel⟩, List.mem_of_getElem? (i := 781) (by decide +kernel), List.mem_of_getElem? (i := 1098) (by decide +kernel), List.mem_of_getElem? (i := 1099) (by decide +kernel)⟩
theorem lw_p61 : lw_okq (⟨"BoardSumsModel", "how", "()I"⟩, 38) := ⟨⟨by decide +kernel, by decide +kernel⟩, List.mem_of_getElem? (i := 781) (by decide +kernel), List.mem_of_getElem? (i := 1102) (by decide +kernel), List.mem_of_getElem? (i := 1103) (by decide +kernel)⟩
theorem lw_p62 : lw_okq (⟨"BoardSumsModel", "name", "(II)V"⟩, 38) := ⟨⟨by decide +kernel, by decide +kernel⟩, List.mem_of_getElem? (i := 781) (by decide +kernel), List.mem_of_getElem? (i := 1106) (by decide +kernel), List.mem_of_getElem? (i := 1107) (by decide +kernel)⟩
def lw_privs_4 : List (MethodName × Nat) := [(⟨"BoardSumsModel", "begin", "()V"⟩, 38), (⟨"BoardSumsModel", "take", "(I)V"⟩, 38), (⟨"BoardSumsModel", "taken", "(I)I"⟩, 38), (⟨"BoardSumsModel", "cellOf", "(III)I"⟩, 38), (⟨"BoardSumsModel", "four", "(I)V"⟩, 38), (⟨"BoardSumsModel", "next", "()V"⟩, 38), (⟨"BoardSumsModel", "readBoard", "()V"⟩, 38), (⟨"BoardSumsModel", "isName", "()Z"⟩, 38), (⟨"BoardSumsModel", "must", "(Z)V"⟩, 38), (⟨"BoardSumsModel", "isSign", "(I)Z"⟩, 38), (⟨"BoardSumsModel", "kindAt", "()I"⟩, 38), (⟨"BoardSumsModel", "isWord", "(IIIII)Z"⟩, 38), (⟨"BoardSumsModel", "number", "(JJ)I"⟩, 38), (⟨"BoardSumsModel", "how", "()I"⟩, 38), (⟨"BoardSumsModel", "name", "(II)V"⟩, 38)]
theorem lw_r4 : ∀ q ∈ lw_privs_4, lw_okq q := List.forall_mem_cons.mpr ⟨lw_p48, List.forall_mem_cons.mpr ⟨lw_p49, List.forall_mem_cons.mpr ⟨lw_p50, List.forall_mem_cons.mpr ⟨lw_p51, List.forall_mem_cons.mpr ⟨lw_p52, List.forall_mem_cons.mpr ⟨lw_p53, List.forall_mem_cons.mpr ⟨lw_p54, List.forall_mem_cons.mpr ⟨lw_p55, List.forall_mem_cons.mpr ⟨lw_p56, List.forall_mem_cons.mpr ⟨lw_p57, List.forall_mem_cons.mpr ⟨lw_p58, List.forall_mem_cons.mpr ⟨lw_p59, List.forall_mem_cons.mpr ⟨lw_p60, List.forall_mem_cons.mpr ⟨lw_p61, List.forall_mem_cons.mpr ⟨lw_p62, fun _ h => absurd h List.not_mem_nil⟩⟩⟩⟩⟩⟩⟩⟩⟩⟩⟩⟩⟩⟩⟩
def lw_privs : List (MethodName × Nat) := lw_privs_1 ++ (lw_privs_2 ++ (lw_privs_3 ++ (lw_privs_4)))
def lw_tbl : List Cond := k2_sels lw_privs ++ tables_1
theorem lw_privs_ok : ∀ q ∈ lw_privs, lw_okq q := by
  show ∀ q ∈ lw_privs_1 ++ (lw_privs_2 ++ (lw_privs_3 ++ (lw_privs_4))), lw_okq q
  exact List.forall_mem_append.mpr ⟨lw_r1, List.forall_mem_append.mpr ⟨lw_r2, List.forall_mem_append.mpr ⟨lw_r3, lw_r4⟩⟩⟩
end
section
def RX0 : String := "BoardSums$Grid"
def TX0 : u_T := fun k => match k with
  | 0 => ("BoardSums$Grid", "width", "I", false)
  | 1 => ("BoardSums$Grid", "height", "I", false)
  | _ => ("BoardSums$Grid", "tiles", "I", false)
def tyX0 : Nat → FieldType := fun k => match k with
  | 0 => .int
  | 1 => .int
  | _ => .int
abbrev wsX00 : List Cond := u_ws RX0 TX0 3
theorem nmX0 : ∀ a, a < 3 → ∀ b, b < 3 → a ≠ b → (TX0 a).2.1 ≠ (TX0 b).2.1 := by decide +kernel
theorem tyX0_ok : ∀ k, k < 3 → parseFieldDescriptor (TX0 k).2.2.1 = some (tyX0 k) := by decide +kernel
abbrev cX0_init : ByteArray := prog_2_method_1_code
def yX0_init : MethodName := ⟨RX0, "<init>", "()V"⟩
abbrev cX0_shape : ByteArray := prog_2_method_2_code
def yX0_shape : MethodName := ⟨RX0, "shape", "(II)V"⟩
abbrev cX0_hasCell : ByteArray := prog_2_method_3_code
def yX0_hasCell : MethodName := ⟨RX0, "hasCell", "(II)Z"⟩
abbrev cX0_hasTile : ByteArray := prog_2_method_4_code
def yX0_hasTile : MethodName := ⟨RX0, "hasTile", "(I)Z"⟩
abbrev cX0_leftOf : ByteArray := prog_2_method_5_code
def yX0_leftOf : MethodName := ⟨RX0, "leftOf", "(I)I"⟩
abbrev cX0_rightOf : ByteArray := prog_2_method_6_code
def yX0_rightOf : MethodName := ⟨RX0, "rightOf", "(I)I"⟩
abbrev cX0_bottomOf : ByteArray := prog_2_method_7_code
def yX0_bottomOf : MethodName := ⟨RX0, "bottomOf", "(I)I"⟩
abbrev cX0_topOf : ByteArray := prog_2_method_8_code
def yX0_topOf : MethodName := ⟨RX0, "topOf", "(I)I"⟩
abbrev cX0_around : ByteArray := prog_2_method_9_code
def yX0_around : MethodName := ⟨RX0, "around", "(I)I"⟩
def RX1 : String := "BoardSums$Maker"
def TX1 : u_T := fun k => match k with
  | 0 => ("BoardSums$Maker", "grid", "LBoardSums$Grid;", true)
  | 1 => ("BoardSums$Maker", "sheets", "LBoardSums$Sheets;", true)
  | 2 => ("BoardSums$Maker", "values", "[[I", true)
  | 3 => ("BoardSums$Maker", "tally", "LBoardSums$Tally;", true)
  | 4 => ("BoardSums$Maker", "sides", "[I", true)
  | 5 => ("BoardSums$Maker", "downhill", "[I", true)
  | _ => ("BoardSums$Maker", "isZoned", "[Z", true)
def tyX1 : Nat → FieldType := fun k => match k with
  | 0 => .object "BoardSums$Grid"
  | 1 => .object "BoardSums$Sheets"
  | 2 => .array (.array .int)
  | 3 => .object "BoardSums$Tally"
  | 4 => .array .int
  | 5 => .array .int
  | _ => .array .boolean
abbrev wsX10 : List Cond := u_ws RX1 TX1 7
theorem nmX1 : ∀ a, a < 7 → ∀ b, b < 7 → a ≠ b → (TX1 a).2.1 ≠ (TX1 b).2.1 := by decide +kernel
theorem tyX1_ok : ∀ k, k < 7 → parseFieldDescriptor (TX1 k).2.2.1 = some (tyX1 k) := by decide +kernel
abbrev cX1_init : ByteArray := prog_3_method_1_code
def yX1_init : MethodName := ⟨RX1, "<init>", "(LBoardSums$Grid;LBoardSums$Sheets;[[I)V"⟩
abbrev cX1_makeTile : ByteArray := prog_3_method_2_code
def yX1_makeTile : MethodName := ⟨RX1, "makeTile", "(LBoardSums$Recipe;I[I)V"⟩
abbrev cX1_makeWhole : ByteArray := prog_3_method_3_code
def yX1_makeWhole : MethodName := ⟨RX1, "makeWhole", "(LBoardSums$Recipe;[I)V"⟩
abbrev cX1_single : ByteArray := prog_3_method_4_code
def yX1_single : MethodName := ⟨RX1, "single", "(LBoardSums$Recipe;I)I"⟩
abbrev cX1_ofBoth : ByteArray := prog_3_method_5_code
def yX1_ofBoth : MethodName := ⟨RX1, "ofBoth", "(III)I"⟩
abbrev cX1_near : ByteArray := prog_3_method_6_code
def yX1_near : MethodName := ⟨RX1, "near", "(LBoardSums$Recipe;II)I"⟩
abbrev cX1_zones : ByteArray := prog_3_method_7_code
def yX1_zones : MethodName := ⟨RX1, "zones", "(I[I[I[I)V"⟩
abbrev cX1_tallyZone : ByteArray := prog_3_method_8_code
def yX1_tallyZone : MethodName := ⟨RX1, "tallyZone", "([I[II)V"⟩
abbrev cX1_fillZone : ByteArray := prog_3_method_9_code
def yX1_fillZone : MethodName := ⟨RX1, "fillZone", "(I[II[I)V"⟩
abbrev cX1_ways : ByteArray := prog_3_method_10_code
def yX1_ways : MethodName := ⟨RX1, "ways", "([I[I[I)V"⟩
abbrev cX1_shorten : ByteArray := prog_3_method_11_code
def yX1_shorten : MethodName := ⟨RX1, "shorten", "([I[II)Z"⟩
abbrev cX1_flows : ByteArray := prog_3_method_12_code
def yX1_flows : MethodName := ⟨RX1, "flows", "([I[I)V"⟩
abbrev cX1_lowestSide : ByteArray := prog_3_method_13_code
def yX1_lowestSide : MethodName := ⟨RX1, "lowestSide", "([II)I"⟩
abbrev cX1_runDown : ByteArray := prog_3_method_14_code
def yX1_runDown : MethodName := ⟨RX1, "runDown", "([II)V"⟩
def RX2 : String := "BoardSums$Plan"
def TX2 : u_T := fun k => match k with
  | 0 => ("BoardSums$Plan", "recipes", "[LBoardSums$Recipe;", true)
  | 1 => ("BoardSums$Plan", "boardOf", "[I", true)
  | _ => ("BoardSums$Plan", "length", "I", false)
def tyX2 : Nat → FieldType := fun k => match k with
  | 0 => .array (.object "BoardSums$Recipe")
  | 1 => .array .int
  | _ => .int
abbrev wsX20 : List Cond := u_ws RX2 TX2 3
theorem nmX2 : ∀ a, a < 3 → ∀ b, b < 3 → a ≠ b → (TX2 a).2.1 ≠ (TX2 b).2.1 := by decide +kernel
theorem tyX2_ok : ∀ k, k < 3 → parseFieldDescriptor (TX2 k).2.2.1 = some (tyX2 k) := by decide +kernel
abbrev cX2_init : ByteArray := prog_4_method_1_code
def yX2_init : MethodName := ⟨RX2, "<init>", "()V"⟩
abbrev cX2_clear : ByteArray := prog_4_method_2_code
def yX2_clear : MethodName := ⟨RX2, "clear", "()V"⟩
abbrev cX2_has : ByteArray := prog_4_method_3_code
def yX2_has : MethodName := ⟨RX2, "has", "(I)Z"⟩
abbrev cX2_isFull : ByteArray := prog_4_method_4_code
def yX2_isFull : MethodName := ⟨RX2, "isFull", "()Z"⟩
abbrev cX2_boardNamed : ByteArray := prog_4_method_5_code
def yX2_boardNamed : MethodName := ⟨RX2, "boardNamed", "(I)I"⟩
abbrev cX2_close : ByteArray := prog_4_method_6_code
def yX2_close : MethodName := ⟨RX2, "close", "(I)V"⟩
def RX3 : String := "BoardSums$Reader"
def TX3 : u_T := fun k => match k with
  | 0 => ("BoardSums$Reader", "tokens", "LBoardSums$Tokens;", true)
  | _ => ("BoardSums$Reader", "plan", "LBoardSums$Plan;", false)
def tyX3 : Nat → FieldType := fun k => match k with
  | 0 => .object "BoardSums$Tokens"
  | _ => .object "BoardSums$Plan"
abbrev wsX30 : List Cond := u_ws RX3 TX3 2
theorem nmX3 : ∀ a, a < 2 → ∀ b, b < 2 → a ≠ b → (TX3 a).2.1 ≠ (TX3 b).2.1 := by decide +kernel
theorem tyX3_ok : ∀ k, k < 2 → parseFieldDescriptor (TX3 k).2.2.1 = some (tyX3 k) := by decide +kernel
abbrev cX3_init : ByteArray := prog_5_method_1_code
def yX3_init : MethodName := ⟨RX3, "<init>", "(LBoardSums$Tape;LBoardSums$Plan;)V"⟩
abbrev cX3_read : ByteArray := prog_5_method_2_code
def yX3_read : MethodName := ⟨RX3, "read", "(LBoardSums$Plan;)I"⟩
abbrev cX3_readBoard : ByteArray := prog_5_method_3_code
def yX3_readBoard : MethodName := ⟨RX3, "readBoard", "()Z"⟩
abbrev cX3_readMaking : ByteArray := prog_5_method_4_code
def yX3_readMaking : MethodName := ⟨RX3, "readMaking", "(LBoardSums$Recipe;)Z"⟩
abbrev cX3_readHow : ByteArray := prog_5_method_5_code
def yX3_readHow : MethodName := ⟨RX3, "readHow", "(LBoardSums$Recipe;)Z"⟩
abbrev cX3_readNames : ByteArray := prog_5_method_6_code
def yX3_readNames : MethodName := ⟨RX3, "readNames", "(LBoardSums$Recipe;I)Z"⟩
abbrev cX3_readNumber : ByteArray := prog_5_method_7_code
def yX3_readNumber : MethodName := ⟨RX3, "readNumber", "(LBoardSums$Recipe;II)Z"⟩
abbrev cX3_readSigned : ByteArray := prog_5_method_8_code
def yX3_readSigned : MethodName := ⟨RX3, "readSigned", "(LBoardSums$Recipe;)Z"⟩
def RX4 : String := "BoardSums$Recipe"
def TX4 : u_T := fun k => match k with
  | 0 => ("BoardSums$Recipe", "named", "[I", true)
  | 1 => ("BoardSums$Recipe", "names", "I", false)
  | 2 => ("BoardSums$Recipe", "kind", "I", false)
  | 3 => ("BoardSums$Recipe", "how", "I", false)
  | _ => ("BoardSums$Recipe", "number", "I", false)
def tyX4 : Nat → FieldType := fun k => match k with
  | 0 => .array .int
  | 1 => .int
  | 2 => .int
  | 3 => .int
  | _ => .int
abbrev wsX40 : List Cond := u_ws RX4 TX4 5
theorem nmX4 : ∀ a, a < 5 → ∀ b, b < 5 → a ≠ b → (TX4 a).2.1 ≠ (TX4 b).2.1 := by decide +kernel
theorem tyX4_ok : ∀ k, k < 5 → parseFieldDescriptor (TX4 k).2.2.1 = some (tyX4 k) := by decide +kernel
abbrev cX4_init : ByteArray := prog_6_method_1_code
def yX4_init : MethodName := ⟨RX4, "<init>", "()V"⟩
abbrev cX4_begin : ByteArray := prog_6_method_2_code
def yX4_begin : MethodName := ⟨RX4, "begin", "(I)V"⟩
abbrev cX4_name : ByteArray := prog_6_method_3_code
def yX4_name : MethodName := ⟨RX4, "name", "(I)V"⟩
abbrev cX4_isWhole : ByteArray := prog_6_method_4_code
def yX4_isWhole : MethodName := ⟨RX4, "isWhole", "()Z"⟩
def RX5 : String := "BoardSums$Sheets"
def TX5 : u_T := fun k => match k with
  | 0 => ("BoardSums$Sheets", "cells", "[[I", true)
  | 1 => ("BoardSums$Sheets", "images", "[[I", true)
  | _ => ("BoardSums$Sheets", "isKept", "[Z", true)
def tyX5 : Nat → FieldType := fun k => match k with
  | 0 => .array (.array .int)
  | 1 => .array (.array .int)
  | _ => .array .boolean
abbrev wsX50 : List Cond := u_ws RX5 TX5 3
theorem nmX5 : ∀ a, a < 3 → ∀ b, b < 3 → a ≠ b → (TX5 a).2.1 ≠ (TX5 b).2.1 := by decide +kernel
theorem tyX5_ok : ∀ k, k < 3 → parseFieldDescriptor (TX5 k).2.2.1 = some (tyX5 k) := by decide +kernel
abbrev cX5_init : ByteArray := prog_7_method_1_code
def yX5_init : MethodName := ⟨RX5, "<init>", "()V"⟩
abbrev cX5_empty : ByteArray := prog_7_method_2_code
def yX5_empty : MethodName := ⟨RX5, "empty", "()V"⟩
abbrev cX5_keep : ByteArray := prog_7_method_3_code
def yX5_keep : MethodName := ⟨RX5, "keep", "(I)V"⟩
def RX6 : String := "BoardSums$Tally"
def TX6 : u_T := fun k => match k with
  | 0 => ("BoardSums$Tally", "sum", "J", false)
  | 1 => ("BoardSums$Tally", "greatest", "I", false)
  | 2 => ("BoardSums$Tally", "smallest", "I", false)
  | _ => ("BoardSums$Tally", "number", "I", false)
def tyX6 : Nat → FieldType := fun k => match k with
  | 0 => .long
  | 1 => .int
  | 2 => .int
  | _ => .int
abbrev wsX60 : List Cond := u_ws RX6 TX6 4
theorem nmX6 : ∀ a, a < 4 → ∀ b, b < 4 → a ≠ b → (TX6 a).2.1 ≠ (TX6 b).2.1 := by decide +kernel
theorem tyX6_ok : ∀ k, k < 4 → parseFieldDescriptor (TX6 k).2.2.1 = some (tyX6 k) := by decide +kernel
abbrev cX6_init : ByteArray := prog_8_method_1_code
def yX6_init : MethodName := ⟨RX6, "<init>", "()V"⟩
abbrev cX6_clear : ByteArray := prog_8_method_2_code
def yX6_clear : MethodName := ⟨RX6, "clear", "()V"⟩
abbrev cX6_take : ByteArray := prog_8_method_3_code
def yX6_take : MethodName := ⟨RX6, "take", "(I)V"⟩
abbrev cX6_answer : ByteArray := prog_8_method_4_code
def yX6_answer : MethodName := ⟨RX6, "answer", "(I)I"⟩
def RX7 : String := "BoardSums$Tape"
def TX7 : u_T := fun k => match k with
  | 0 => ("BoardSums$Tape", "bytes", "[C", true)
  | _ => ("BoardSums$Tape", "length", "I", false)
def tyX7 : Nat → FieldType := fun k => match k with
  | 0 => .array .char
  | _ => .int
abbrev wsX70 : List Cond := u_ws RX7 TX7 2
theorem nmX7 : ∀ a, a < 2 → ∀ b, b < 2 → a ≠ b → (TX7 a).2.1 ≠ (TX7 b).2.1 := by decide +kernel
theorem tyX7_ok : ∀ k, k < 2 → parseFieldDescriptor (TX7 k).2.2.1 = some (tyX7 k) := by decide +kernel
abbrev cX7_init : ByteArray := prog_9_method_1_code
def yX7_init : MethodName := ⟨RX7, "<init>", "()V"⟩
abbrev cX7_hasRoom : ByteArray := prog_9_method_2_code
def yX7_hasRoom : MethodName := ⟨RX7, "hasRoom", "(I)Z"⟩
abbrev cX7_append : ByteArray := prog_9_method_3_code
def yX7_append : MethodName := ⟨RX7, "append", "(I)V"⟩
abbrev cX7_byteAt : ByteArray := prog_9_method_4_code
def yX7_byteAt : MethodName := ⟨RX7, "byteAt", "(I)C"⟩
abbrev cX7_isLetter : ByteArray := prog_9_method_5_code
def yX7_isLetter : MethodName := ⟨RX7, "isLetter", "(I)Z"⟩
abbrev cX7_isDigit : ByteArray := prog_9_method_6_code
def yX7_isDigit : MethodName := ⟨RX7, "isDigit", "(I)Z"⟩
def RX8 : String := "BoardSums$Tokens"
def TX8 : u_T := fun k => match k with
  | 0 => ("BoardSums$Tokens", "tape", "LBoardSums$Tape;", true)
  | 1 => ("BoardSums$Tokens", "kinds", "[I", true)
  | 2 => ("BoardSums$Tokens", "codes", "[I", true)
  | 3 => ("BoardSums$Tokens", "places", "[I", true)
  | 4 => ("BoardSums$Tokens", "length", "I", false)
  | _ => ("BoardSums$Tokens", "next", "I", false)
def tyX8 : Nat → FieldType := fun k => match k with
  | 0 => .object "BoardSums$Tape"
  | 1 => .array .int
  | 2 => .array .int
  | 3 => .array .int
  | 4 => .int
  | _ => .int
abbrev wsX80 : List Cond := u_ws RX8 TX8 6
theorem nmX8 : ∀ a, a < 6 → ∀ b, b < 6 → a ≠ b → (TX8 a).2.1 ≠ (TX8 b).2.1 := by decide +kernel
theorem tyX8_ok : ∀ k, k < 6 → parseFieldDescriptor (TX8 k).2.2.1 = some (tyX8 k) := by decide +kernel
abbrev cX8_init : ByteArray := prog_10_method_1_code
def yX8_init : MethodName := ⟨RX8, "<init>", "(LBoardSums$Tape;)V"⟩
abbrev cX8_cut : ByteArray := prog_10_method_2_code
def yX8_cut : MethodName := ⟨RX8, "cut", "()V"⟩
abbrev cX8_isStart : ByteArray := prog_10_method_3_code
def yX8_isStart : MethodName := ⟨RX8, "isStart", "(I)Z"⟩
abbrev cX8_holdAt : ByteArray := prog_10_method_4_code
def yX8_holdAt : MethodName := ⟨RX8, "holdAt", "(I)V"⟩
abbrev cX8_hold : ByteArray := prog_10_method_5_code
def yX8_hold : MethodName := ⟨RX8, "hold", "(III)V"⟩
abbrev cX8_holdLetters : ByteArray := prog_10_method_6_code
def yX8_holdLetters : MethodName := ⟨RX8, "holdLetters", "(I)V"⟩
abbrev cX8_holdDigits : ByteArray := prog_10_method_7_code
def yX8_holdDigits : MethodName := ⟨RX8, "holdDigits", "(I)V"⟩
abbrev cX8_isSpelled : ByteArray := prog_10_method_8_code
def yX8_isSpelled : MethodName := ⟨RX8, "isSpelled", "(Ljava/lang/String;II)Z"⟩
abbrev cX8_spelling : ByteArray := prog_10_method_9_code
def yX8_spelling : MethodName := ⟨RX8, "spelling", "(I)Ljava/lang/String;"⟩
abbrev cX8_place : ByteArray := prog_10_method_10_code
def yX8_place : MethodName := ⟨RX8, "place", "()I"⟩
abbrev cX8_isEnd : ByteArray := prog_10_method_11_code
def yX8_isEnd : MethodName := ⟨RX8, "isEnd", "()Z"⟩
abbrev cX8_look : ByteArray := prog_10_method_12_code
def yX8_look : MethodName := ⟨RX8, "look", "(I)I"⟩
abbrev cX8_step : ByteArray := prog_10_method_13_code
def yX8_step : MethodName := ⟨RX8, "step", "()V"⟩
abbrev cX8_pass : ByteArray := prog_10_method_14_code
def yX8_pass : MethodName := ⟨RX8, "pass", "(C)Z"⟩
def RX9 : String := "BoardSums$Works"
def TX9 : u_T := fun k => match k with
  | 0 => ("BoardSums$Works", "grid", "LBoardSums$Grid;", true)
  | 1 => ("BoardSums$Works", "maker", "LBoardSums$Maker;", true)
  | 2 => ("BoardSums$Works", "freshTiles", "[I", true)
  | 3 => ("BoardSums$Works", "reached", "[I", true)
  | 4 => ("BoardSums$Works", "values", "[[I", true)
  | 5 => ("BoardSums$Works", "plan", "LBoardSums$Plan;", false)
  | _ => ("BoardSums$Works", "makings", "I", false)
def tyX9 : Nat → FieldType := fun k => match k with
  | 0 => .object "BoardSums$Grid"
  | 1 => .object "BoardSums$Maker"
  | 2 => .array .int
  | 3 => .array .int
  | 4 => .array (.array .int)
  | 5 => .object "BoardSums$Plan"
  | _ => .int
abbrev wsX90 : List Cond := u_ws RX9 TX9 7
theorem nmX9 : ∀ a, a < 7 → ∀ b, b < 7 → a ≠ b → (TX9 a).2.1 ≠ (TX9 b).2.1 := by decide +kernel
theorem tyX9_ok : ∀ k, k < 7 → parseFieldDescriptor (TX9 k).2.2.1 = some (tyX9 k) := by decide +kernel
abbrev cX9_init : ByteArray := prog_11_method_1_code
def yX9_init : MethodName := ⟨RX9, "<init>", "(LBoardSums$Grid;LBoardSums$Sheets;LBoardSums$Plan;)V"⟩
abbrev cX9_follow : ByteArray := prog_11_method_2_code
def yX9_follow : MethodName := ⟨RX9, "follow", "(LBoardSums$Plan;)V"⟩
abbrev cX9_empty : ByteArray := prog_11_method_3_code
def yX9_empty : MethodName := ⟨RX9, "empty", "()V"⟩
abbrev cX9_isFresh : ByteArray := prog_11_method_4_code
def yX9_isFresh : MethodName := ⟨RX9, "isFresh", "(II)Z"⟩
abbrev cX9_freshInAll : ByteArray := prog_11_method_5_code
def yX9_freshInAll : MethodName := ⟨RX9, "freshInAll", "()I"⟩
abbrev cX9_ask : ByteArray := prog_11_method_6_code
def yX9_ask : MethodName := ⟨RX9, "ask", "(II)V"⟩
abbrev cX9_sources : ByteArray := prog_11_method_7_code
def yX9_sources : MethodName := ⟨RX9, "sources", "(III)I"⟩
abbrev cX9_lose : ByteArray := prog_11_method_8_code
def yX9_lose : MethodName := ⟨RX9, "lose", "(II)V"⟩
abbrev cX9_tilesFrom : ByteArray := prog_11_method_9_code
def yX9_tilesFrom : MethodName := ⟨RX9, "tilesFrom", "(LBoardSums$Recipe;II)I"⟩
abbrev cX9_reachNeeded : ByteArray := prog_11_method_10_code
def yX9_reachNeeded : MethodName := ⟨RX9, "reachNeeded", "(II)V"⟩
abbrev cX9_across : ByteArray := prog_11_method_11_code
def yX9_across : MethodName := ⟨RX9, "across", "(LBoardSums$Recipe;I)I"⟩
abbrev cX9_makeTiles : ByteArray := prog_11_method_12_code
def yX9_makeTiles : MethodName := ⟨RX9, "makeTiles", "(II)V"⟩
def RX10 : String := "BoardSums"
def TX10 : u_T := fun k => match k with
  | 0 => ("BoardSums", "grid", "LBoardSums$Grid;", true)
  | 1 => ("BoardSums", "sheets", "LBoardSums$Sheets;", true)
  | 2 => ("BoardSums", "tape", "LBoardSums$Tape;", true)
  | 3 => ("BoardSums", "reader", "LBoardSums$Reader;", true)
  | 4 => ("BoardSums", "works", "LBoardSums$Works;", true)
  | 5 => ("BoardSums", "plan", "LBoardSums$Plan;", false)
  | 6 => ("BoardSums", "draft", "LBoardSums$Plan;", false)
  | 7 => ("BoardSums", "faultPlace", "I", false)
  | _ => ("BoardSums", "refusal", "I", false)
def tyX10 : Nat → FieldType := fun k => match k with
  | 0 => .object "BoardSums$Grid"
  | 1 => .object "BoardSums$Sheets"
  | 2 => .object "BoardSums$Tape"
  | 3 => .object "BoardSums$Reader"
  | 4 => .object "BoardSums$Works"
  | 5 => .object "BoardSums$Plan"
  | 6 => .object "BoardSums$Plan"
  | 7 => .int
  | _ => .int
abbrev wsX100 : List Cond := u_ws RX10 TX10 9
theorem nmX10 : ∀ a, a < 9 → ∀ b, b < 9 → a ≠ b → (TX10 a).2.1 ≠ (TX10 b).2.1 := by decide +kernel
theorem tyX10_ok : ∀ k, k < 9 → parseFieldDescriptor (TX10 k).2.2.1 = some (tyX10 k) := by decide +kernel
abbrev cX10_init : ByteArray := prog_1_method_1_code
def yX10_init : MethodName := ⟨RX10, "<init>", "()V"⟩
abbrev cX10_size : ByteArray := prog_1_method_2_code
def yX10_size : MethodName := ⟨RX10, "size", "(II)I"⟩
abbrev cX10_tell : ByteArray := prog_1_method_3_code
def yX10_tell : MethodName := ⟨RX10, "tell", "(IIII)I"⟩
abbrev cX10_told : ByteArray := prog_1_method_4_code
def yX10_told : MethodName := ⟨RX10, "told", "(III)I"⟩
abbrev cX10_feed : ByteArray := prog_1_method_5_code
def yX10_feed : MethodName := ⟨RX10, "feed", "(IIIII)I"⟩
abbrev cX10_end : ByteArray := prog_1_method_6_code
def yX10_end : MethodName := ⟨RX10, "end", "(I)I"⟩
abbrev cX10_boards : ByteArray := prog_1_method_7_code
def yX10_boards : MethodName := ⟨RX10, "boards", "()I"⟩
abbrev cX10_fault : ByteArray := prog_1_method_8_code
def yX10_fault : MethodName := ⟨RX10, "fault", "()I"⟩
abbrev cX10_cell : ByteArray := prog_1_method_9_code
def yX10_cell : MethodName := ⟨RX10, "cell", "(III)I"⟩
abbrev cX10_fresh : ByteArray := prog_1_method_10_code
def yX10_fresh : MethodName := ⟨RX10, "fresh", "(II)I"⟩
abbrev cX10_from : ByteArray := prog_1_method_11_code
def yX10_from : MethodName := ⟨RX10, "from", "(III)I"⟩
abbrev cX10_made : ByteArray := prog_1_method_12_code
def yX10_made : MethodName := ⟨RX10, "made", "()I"⟩
abbrev cX10_image : ByteArray := prog_1_method_13_code
def yX10_image : MethodName := ⟨RX10, "image", "(I)I"⟩
abbrev cX10_back : ByteArray := prog_1_method_14_code
def yX10_back : MethodName := ⟨RX10, "back", "(I)I"⟩
abbrev cX10_count : ByteArray := prog_1_method_15_code
def yX10_count : MethodName := ⟨RX10, "count", "(I)I"⟩
abbrev cX10_status : ByteArray := prog_1_method_16_code
def yX10_status : MethodName := ⟨RX10, "status", "()I"⟩
abbrev cX10_refuse : ByteArray := prog_1_method_17_code
def yX10_refuse : MethodName := ⟨RX10, "refuse", "(I)I"⟩
abbrev cX10_accept : ByteArray := prog_1_method_18_code
def yX10_accept : MethodName := ⟨RX10, "accept", "(I)I"⟩
abbrev cX10_put : ByteArray := prog_1_method_19_code
def yX10_put : MethodName := ⟨RX10, "put", "(III)V"⟩
abbrev cX10_bringBack : ByteArray := prog_1_method_20_code
def yX10_bringBack : MethodName := ⟨RX10, "bringBack", "(II)I"⟩
abbrev cX10_isSide : ByteArray := prog_1_method_21_code
def yX10_isSide : MethodName := ⟨RX10, "isSide", "(I)Z"⟩
abbrev cX10_isSheet : ByteArray := prog_1_method_22_code
def yX10_isSheet : MethodName := ⟨RX10, "isSheet", "(I)Z"⟩
abbrev cX10_isImage : ByteArray := prog_1_method_23_code
def yX10_isImage : MethodName := ⟨RX10, "isImage", "(I)Z"⟩
abbrev cX10_isTellable : ByteArray := prog_1_method_24_code
def yX10_isTellable : MethodName := ⟨RX10, "isTellable", "(I)Z"⟩
abbrev cX10_placeOf : ByteArray := prog_1_method_25_code
def yX10_placeOf : MethodName := ⟨RX10, "placeOf", "(II)I"⟩
abbrev cX10_tileOf : ByteArray := prog_1_method_26_code
def yX10_tileOf : MethodName := ⟨RX10, "tileOf", "(II)I"⟩
abbrev cX10_orGap : ByteArray := prog_1_method_27_code
def yX10_orGap : MethodName := ⟨RX10, "orGap", "(J)I"⟩
def RX11 : String := "BoardSumsModel"
def TX11 : u_T := fun k => match k with
  | 0 => ("BoardSumsModel", "thrown", "I", false)
  | 1 => ("BoardSumsModel", "status", "I", false)
  | 2 => ("BoardSumsModel", "wide", "I", false)
  | 3 => ("BoardSumsModel", "high", "I", false)
  | 4 => ("BoardSumsModel", "sheets", "[I", true)
  | 5 => ("BoardSumsModel", "images", "[I", true)
  | 6 => ("BoardSumsModel", "isKept", "[Z", true)
  | 7 => ("BoardSumsModel", "boards", "I", false)
  | 8 => ("BoardSumsModel", "kinds", "[I", true)
  | 9 => ("BoardSumsModel", "hows", "[I", true)
  | 10 => ("BoardSumsModel", "numbers", "[I", true)
  | 11 => ("BoardSumsModel", "ofs", "[I", true)
  | 12 => ("BoardSumsModel", "manyOf", "[I", true)
  | 13 => ("BoardSumsModel", "isFresh", "[Z", true)
  | 14 => ("BoardSumsModel", "made", "I", false)
  | 15 => ("BoardSumsModel", "needs", "[I", true)
  | 16 => ("BoardSumsModel", "values", "[I", true)
  | 17 => ("BoardSumsModel", "got", "I", false)
  | 18 => ("BoardSumsModel", "sum", "J", false)
  | 19 => ("BoardSumsModel", "least", "J", false)
  | 20 => ("BoardSumsModel", "most", "J", false)
  | 21 => ("BoardSumsModel", "far", "[J", true)
  | 22 => ("BoardSumsModel", "flows", "[I", true)
  | 23 => ("BoardSumsModel", "nBoards", "I", false)
  | 24 => ("BoardSumsModel", "nKind", "[I", true)
  | 25 => ("BoardSumsModel", "nHow", "[I", true)
  | 26 => ("BoardSumsModel", "nNumber", "[I", true)
  | 27 => ("BoardSumsModel", "nOf", "[I", true)
  | 28 => ("BoardSumsModel", "nMany", "[I", true)
  | 29 => ("BoardSumsModel", "named", "[I", true)
  | 30 => ("BoardSumsModel", "tape", "[I", true)
  | 31 => ("BoardSumsModel", "taped", "I", false)
  | 32 => ("BoardSumsModel", "start", "I", false)
  | 33 => ("BoardSumsModel", "to", "I", false)
  | 34 => ("BoardSumsModel", "sort", "I", false)
  | 35 => ("BoardSumsModel", "worth", "J", false)
  | 36 => ("BoardSumsModel", "fault", "I", false)
  | _ => ("BoardSumsModel", "bad", "Z", false)
def tyX11 : Nat → FieldType := fun k => match k with
  | 0 => .int
  | 1 => .int
  | 2 => .int
  | 3 => .int
  | 4 => .array .int
  | 5 => .array .int
  | 6 => .array .boolean
  | 7 => .int
  | 8 => .array .int
  | 9 => .array .int
  | 10 => .array .int
  | 11 => .array .int
  | 12 => .array .int
  | 13 => .array .boolean
  | 14 => .int
  | 15 => .array .int
  | 16 => .array .int
  | 17 => .int
  | 18 => .long
  | 19 => .long
  | 20 => .long
  | 21 => .array .long
  | 22 => .array .int
  | 23 => .int
  | 24 => .array .int
  | 25 => .array .int
  | 26 => .array .int
  | 27 => .array .int
  | 28 => .array .int
  | 29 => .array .int
  | 30 => .array .int
  | 31 => .int
  | 32 => .int
  | 33 => .int
  | 34 => .int
  | 35 => .long
  | 36 => .int
  | _ => .boolean
abbrev wsX110 : List Cond := u_ws RX11 TX11 38
theorem nmX11 : ∀ a, a < 38 → ∀ b, b < 38 → a ≠ b → (TX11 a).2.1 ≠ (TX11 b).2.1 := by decide +kernel
theorem tyX11_ok : ∀ k, k < 38 → parseFieldDescriptor (TX11 k).2.2.1 = some (tyX11 k) := by decide +kernel
abbrev cX11_init : ByteArray := prog_13_method_1_code
def yX11_init : MethodName := ⟨RX11, "<init>", "()V"⟩
abbrev cX11_in : ByteArray := prog_13_method_3_code
def yX11_in : MethodName := ⟨RX11, "in", "(JJJ)Z"⟩
abbrev cX11_answer : ByteArray := prog_13_method_4_code
def yX11_answer : MethodName := ⟨RX11, "answer", "(I)I"⟩
abbrev cX11_clearSheets : ByteArray := prog_13_method_5_code
def yX11_clearSheets : MethodName := ⟨RX11, "clearSheets", "()V"⟩
abbrev cX11_isCell : ByteArray := prog_13_method_6_code
def yX11_isCell : MethodName := ⟨RX11, "isCell", "(II)Z"⟩
abbrev cX11_size : ByteArray := prog_13_method_7_code
def yX11_size : MethodName := ⟨RX11, "size", "(II)I"⟩
abbrev cX11_tell : ByteArray := prog_13_method_8_code
def yX11_tell : MethodName := ⟨RX11, "tell", "(IIII)I"⟩
abbrev cX11_tileOf : ByteArray := prog_13_method_9_code
def yX11_tileOf : MethodName := ⟨RX11, "tileOf", "(II)I"⟩
abbrev cX11_put : ByteArray := prog_13_method_10_code
def yX11_put : MethodName := ⟨RX11, "put", "(IIII)V"⟩
abbrev cX11_told : ByteArray := prog_13_method_11_code
def yX11_told : MethodName := ⟨RX11, "told", "(III)I"⟩
abbrev cX11_staleAll : ByteArray := prog_13_method_12_code
def yX11_staleAll : MethodName := ⟨RX11, "staleAll", "()V"⟩
abbrev cX11_isTile : ByteArray := prog_13_method_13_code
def yX11_isTile : MethodName := ⟨RX11, "isTile", "(I)Z"⟩
abbrev cX11_allTiles : ByteArray := prog_13_method_14_code
def yX11_allTiles : MethodName := ⟨RX11, "allTiles", "()I"⟩
abbrev cX11_needOf : ByteArray := prog_13_method_15_code
def yX11_needOf : MethodName := ⟨RX11, "needOf", "(II)I"⟩
abbrev cX11_findNeeds : ByteArray := prog_13_method_16_code
def yX11_findNeeds : MethodName := ⟨RX11, "findNeeds", "(II)V"⟩
abbrev cX11_fromOf : ByteArray := prog_13_method_17_code
def yX11_fromOf : MethodName := ⟨RX11, "fromOf", "(III)I"⟩
abbrev cX11_from : ByteArray := prog_13_method_18_code
def yX11_from : MethodName := ⟨RX11, "from", "(III)I"⟩
abbrev cX11_isBoard : ByteArray := prog_13_method_19_code
def yX11_isBoard : MethodName := ⟨RX11, "isBoard", "(I)Z"⟩
abbrev cX11_fresh : ByteArray := prog_13_method_20_code
def yX11_fresh : MethodName := ⟨RX11, "fresh", "(II)I"⟩
abbrev cX11_made : ByteArray := prog_13_method_21_code
def yX11_made : MethodName := ⟨RX11, "made", "()I"⟩
abbrev cX11_begin : ByteArray := prog_13_method_22_code
def yX11_begin : MethodName := ⟨RX11, "begin", "()V"⟩
abbrev cX11_take : ByteArray := prog_13_method_23_code
def yX11_take : MethodName := ⟨RX11, "take", "(I)V"⟩
abbrev cX11_kept : ByteArray := prog_13_method_24_code
def yX11_kept : MethodName := ⟨RX11, "kept", "(J)I"⟩
abbrev cX11_taken : ByteArray := prog_13_method_25_code
def yX11_taken : MethodName := ⟨RX11, "taken", "(I)I"⟩
abbrev cX11_at : ByteArray := prog_13_method_26_code
def yX11_at : MethodName := ⟨RX11, "at", "(III)I"⟩
abbrev cX11_set : ByteArray := prog_13_method_27_code
def yX11_set : MethodName := ⟨RX11, "set", "(IIII)V"⟩
abbrev cX11_cellOf : ByteArray := prog_13_method_28_code
def yX11_cellOf : MethodName := ⟨RX11, "cellOf", "(III)I"⟩
abbrev cX11_workOut : ByteArray := prog_13_method_29_code
def yX11_workOut : MethodName := ⟨RX11, "workOut", "(I)V"⟩
abbrev cX11_valueOf : ByteArray := prog_13_method_30_code
def yX11_valueOf : MethodName := ⟨RX11, "valueOf", "(III)I"⟩
abbrev cX11_stepX : ByteArray := prog_13_method_31_code
def yX11_stepX : MethodName := ⟨RX11, "stepX", "(I)I"⟩
abbrev cX11_stepY : ByteArray := prog_13_method_32_code
def yX11_stepY : MethodName := ⟨RX11, "stepY", "(I)I"⟩
abbrev cX11_workWay : ByteArray := prog_13_method_33_code
def yX11_workWay : MethodName := ⟨RX11, "workWay", "(I)V"⟩
abbrev cX11_flowOf : ByteArray := prog_13_method_34_code
def yX11_flowOf : MethodName := ⟨RX11, "flowOf", "(III)I"⟩
abbrev cX11_workFlow : ByteArray := prog_13_method_35_code
def yX11_workFlow : MethodName := ⟨RX11, "workFlow", "(I)V"⟩
abbrev cX11_cell : ByteArray := prog_13_method_36_code
def yX11_cell : MethodName := ⟨RX11, "cell", "(III)I"⟩
abbrev cX11_four : ByteArray := prog_13_method_37_code
def yX11_four : MethodName := ⟨RX11, "four", "(I)V"⟩
abbrev cX11_feed : ByteArray := prog_13_method_38_code
def yX11_feed : MethodName := ⟨RX11, "feed", "(IIIII)I"⟩
abbrev cX11_end : ByteArray := prog_13_method_39_code
def yX11_end : MethodName := ⟨RX11, "end", "(I)I"⟩
abbrev cX11_isSmall : ByteArray := prog_13_method_40_code
def yX11_isSmall : MethodName := ⟨RX11, "isSmall", "(I)Z"⟩
abbrev cX11_isDigit : ByteArray := prog_13_method_41_code
def yX11_isDigit : MethodName := ⟨RX11, "isDigit", "(I)Z"⟩
abbrev cX11_next : ByteArray := prog_13_method_42_code
def yX11_next : MethodName := ⟨RX11, "next", "()V"⟩
abbrev cX11_isWord : ByteArray := prog_13_method_43_code
def yX11_isWord : MethodName := ⟨RX11, "isWord", "(IIIII)Z"⟩
abbrev cX11_isSign : ByteArray := prog_13_method_44_code
def yX11_isSign : MethodName := ⟨RX11, "isSign", "(I)Z"⟩
abbrev cX11_must : ByteArray := prog_13_method_45_code
def yX11_must : MethodName := ⟨RX11, "must", "(Z)V"⟩
abbrev cX11_number : ByteArray := prog_13_method_46_code
def yX11_number : MethodName := ⟨RX11, "number", "(JJ)I"⟩
abbrev cX11_isName : ByteArray := prog_13_method_47_code
def yX11_isName : MethodName := ⟨RX11, "isName", "()Z"⟩
abbrev cX11_name : ByteArray := prog_13_method_48_code
def yX11_name : MethodName := ⟨RX11, "name", "(II)V"⟩
abbrev cX11_kindAt : ByteArray := prog_13_method_49_code
def yX11_kindAt : MethodName := ⟨RX11, "kindAt", "()I"⟩
abbrev cX11_how : ByteArray := prog_13_method_50_code
def yX11_how : MethodName := ⟨RX11, "how", "()I"⟩
abbrev cX11_readBoard : ByteArray := prog_13_method_51_code
def yX11_readBoard : MethodName := ⟨RX11, "readBoard", "()V"⟩
abbrev cX11_boards : ByteArray := prog_13_method_52_code
def yX11_boards : MethodName := ⟨RX11, "boards", "()I"⟩
abbrev cX11_fault : ByteArray := prog_13_method_53_code
def yX11_fault : MethodName := ⟨RX11, "fault", "()I"⟩
abbrev cX11_image : ByteArray := prog_13_method_54_code
def yX11_image : MethodName := ⟨RX11, "image", "(I)I"⟩
abbrev cX11_back : ByteArray := prog_13_method_55_code
def yX11_back : MethodName := ⟨RX11, "back", "(I)I"⟩
abbrev cX11_count : ByteArray := prog_13_method_56_code
def yX11_count : MethodName := ⟨RX11, "count", "(I)I"⟩
abbrev cX11_status : ByteArray := prog_13_method_57_code
def yX11_status : MethodName := ⟨RX11, "status", "()I"⟩
def RJ6 : String := "java/lang/Integer"
def TJ6 : u_T := fun k => match k with
  | _ => ("", "", "", false)
def tyJ6 : Nat → FieldType := fun k => match k with
  | _ => .int
abbrev wsJ60 : List Cond := u_ws RJ6 TJ6 0
theorem nmJ6 : ∀ a, a < 0 → ∀ b, b < 0 → a ≠ b → (TJ6 a).2.1 ≠ (TJ6 b).2.1 := by decide +kernel
theorem tyJ6_ok : ∀ k, k < 0 → parseFieldDescriptor (TJ6 k).2.2.1 = some (tyJ6 k) := by decide +kernel
abbrev cJ6_bitCount_0f7a4 : ByteArray := prog_14_method_49_code
def yJ6_bitCount_0f7a4 : MethodName := ⟨RJ6, "bitCount", "(I)I"⟩
def RJ9 : String := "java/lang/Math"
def TJ9 : u_T := fun k => match k with
  | _ => ("", "", "", false)
def tyJ9 : Nat → FieldType := fun k => match k with
  | _ => .int
abbrev wsJ90 : List Cond := u_ws RJ9 TJ9 0
theorem nmJ9 : ∀ a, a < 0 → ∀ b, b < 0 → a ≠ b → (TJ9 a).2.1 ≠ (TJ9 b).2.1 := by decide +kernel
theorem tyJ9_ok : ∀ k, k < 0 → parseFieldDescriptor (TJ9 k).2.2.1 = some (tyJ9 k) := by decide +kernel
abbrev cJ9_max_7cf53 : ByteArray := prog_15_method_65_code
def yJ9_max_7cf53 : MethodName := ⟨RJ9, "max", "(II)I"⟩
abbrev cJ9_min_7cf53 : ByteArray := prog_15_method_69_code
def yJ9_min_7cf53 : MethodName := ⟨RJ9, "min", "(II)I"⟩
def RJ0 : String := "java/lang/String"
def TJ0 : u_T := fun k => match k with
  | _ => ("", "", "", false)
def tyJ0 : Nat → FieldType := fun k => match k with
  | _ => .int
abbrev wsJ00 : List Cond := u_ws RJ0 TJ0 0
theorem nmJ0 : ∀ a, a < 0 → ∀ b, b < 0 → a ≠ b → (TJ0 a).2.1 ≠ (TJ0 b).2.1 := by decide +kernel
theorem tyJ0_ok : ∀ k, k < 0 → parseFieldDescriptor (TJ0 k).2.2.1 = some (tyJ0 k) := by decide +kernel
abbrev cJ0_length_8abf5 : ByteArray := prog_16_method_54_code
def yJ0_length_8abf5 : MethodName := ⟨RJ0, "length", "()I"⟩
abbrev cJ0_charAt_5068e : ByteArray := prog_16_method_56_code
def yJ0_charAt_5068e : MethodName := ⟨RJ0, "charAt", "(I)C"⟩
abbrev cJ0_coder_7d493 : ByteArray := prog_16_method_152_code
def yJ0_coder_7d493 : MethodName := ⟨RJ0, "coder", "()B"⟩
abbrev cJ0_isLatin1_aae02 : ByteArray := prog_16_method_154_code
def yJ0_isLatin1_aae02 : MethodName := ⟨RJ0, "isLatin1", "()Z"⟩
abbrev cJ0_checkIndex_df160 : ByteArray := prog_16_method_155_code
def yJ0_checkIndex_df160 : MethodName := ⟨RJ0, "checkIndex", "(II)V"⟩
def RJ1 : String := "java/lang/StringLatin1"
def TJ1 : u_T := fun k => match k with
  | _ => ("", "", "", false)
def tyJ1 : Nat → FieldType := fun k => match k with
  | _ => .int
abbrev wsJ10 : List Cond := u_ws RJ1 TJ1 0
theorem nmJ1 : ∀ a, a < 0 → ∀ b, b < 0 → a ≠ b → (TJ1 a).2.1 ≠ (TJ1 b).2.1 := by decide +kernel
theorem tyJ1_ok : ∀ k, k < 0 → parseFieldDescriptor (TJ1 k).2.2.1 = some (tyJ1 k) := by decide +kernel
abbrev cJ1_charAt_3b067 : ByteArray := prog_17_method_2_code
def yJ1_charAt_3b067 : MethodName := ⟨RJ1, "charAt", "([BI)C"⟩
def RJ2 : String := "java/lang/StringUTF16"
def TJ2 : u_T := fun k => match k with
  | _ => ("", "", "", false)
def tyJ2 : Nat → FieldType := fun k => match k with
  | _ => .int
abbrev wsJ20 : List Cond := u_ws RJ2 TJ2 0
theorem nmJ2 : ∀ a, a < 0 → ∀ b, b < 0 → a ≠ b → (TJ2 a).2.1 ≠ (TJ2 b).2.1 := by decide +kernel
theorem tyJ2_ok : ∀ k, k < 0 → parseFieldDescriptor (TJ2 k).2.2.1 = some (tyJ2 k) := by decide +kernel
abbrev cJ2_getChar_3b067 : ByteArray := prog_18_method_5_code
def yJ2_getChar_3b067 : MethodName := ⟨RJ2, "getChar", "([BI)C"⟩
abbrev cJ2_length_9d52b : ByteArray := prog_18_method_6_code
def yJ2_length_9d52b : MethodName := ⟨RJ2, "length", "([B)I"⟩
abbrev cJ2_charAt_3b067 : ByteArray := prog_18_method_83_code
def yJ2_charAt_3b067 : MethodName := ⟨RJ2, "charAt", "([BI)C"⟩
abbrev cJ2_checkIndex_2214a : ByteArray := prog_18_method_91_code
def yJ2_checkIndex_2214a : MethodName := ⟨RJ2, "checkIndex", "(I[B)V"⟩
def RJ10 : String := "java/lang/System"
def TJ10 : u_T := fun k => match k with
  | _ => ("", "", "", false)
def tyJ10 : Nat → FieldType := fun k => match k with
  | _ => .int
abbrev wsJ100 : List Cond := u_ws RJ10 TJ10 0
theorem nmJ10 : ∀ a, a < 0 → ∀ b, b < 0 → a ≠ b → (TJ10 a).2.1 ≠ (TJ10 b).2.1 := by decide +kernel
theorem tyJ10_ok : ∀ k, k < 0 → parseFieldDescriptor (TJ10 k).2.2.1 = some (tyJ10 k) := by decide +kernel
def RJ7 : String := "java/util/Arrays"
def TJ7 : u_T := fun k => match k with
  | _ => ("", "", "", false)
def tyJ7 : Nat → FieldType := fun k => match k with
  | _ => .int
abbrev wsJ70 : List Cond := u_ws RJ7 TJ7 0
theorem nmJ7 : ∀ a, a < 0 → ∀ b, b < 0 → a ≠ b → (TJ7 a).2.1 ≠ (TJ7 b).2.1 := by decide +kernel
theorem tyJ7_ok : ∀ k, k < 0 → parseFieldDescriptor (TJ7 k).2.2.1 = some (tyJ7 k) := by decide +kernel
abbrev cJ7_fill_53178 : ByteArray := prog_20_method_103_code
def yJ7_fill_53178 : MethodName := ⟨RJ7, "fill", "([II)V"⟩
def RJ3 : String := "jdk/internal/util/Preconditions"
def TJ3 : u_T := fun k => match k with
  | _ => ("", "", "", false)
def tyJ3 : Nat → FieldType := fun k => match k with
  | _ => .int
abbrev wsJ30 : List Cond := u_ws RJ3 TJ3 0
theorem nmJ3 : ∀ a, a < 0 → ∀ b, b < 0 → a ≠ b → (TJ3 a).2.1 ≠ (TJ3 b).2.1 := by decide +kernel
theorem tyJ3_ok : ∀ k, k < 0 → parseFieldDescriptor (TJ3 k).2.2.1 = some (tyJ3 k) := by decide +kernel
abbrev cJ3_checkIndex_8e157 : ByteArray := prog_21_method_11_code
def yJ3_checkIndex_8e157 : MethodName := ⟨RJ3, "checkIndex", "(IILjava/util/function/BiFunction;)I"⟩
def RL : String := "BoardSumsLaw"
abbrev cL_law : ByteArray := code
abbrev vwCl : List vw_C := [(RX0, TX0, 3), (RX1, TX1, 7), (RX2, TX2, 3), (RX3, TX3, 2), (RX4, TX4, 5), (RX5, TX5, 3), (RX6, TX6, 4), (RX7, TX7, 2), (RX8, TX8, 6), (RX9, TX9, 7), (RX10, TX10, 9), (RX11, TX11, 38)]
/-- the words that last -/
def q_tb : List Cond := lw_tbl.filter goodWord
theorem inX0 : ∀ w ∈ wsX00, w ∈ q_tb := by decide +kernel
theorem inX1 : ∀ w ∈ wsX10, w ∈ q_tb := by decide +kernel
theorem inX2 : ∀ w ∈ wsX20, w ∈ q_tb := by decide +kernel
theorem inX3 : ∀ w ∈ wsX30, w ∈ q_tb := by decide +kernel
theorem inX4 : ∀ w ∈ wsX40, w ∈ q_tb := by decide +kernel
theorem inX5 : ∀ w ∈ wsX50, w ∈ q_tb := by decide +kernel
theorem inX6 : ∀ w ∈ wsX60, w ∈ q_tb := by decide +kernel
theorem inX7 : ∀ w ∈ wsX70, w ∈ q_tb := by decide +kernel
theorem inX8 : ∀ w ∈ wsX80, w ∈ q_tb := by decide +kernel
theorem inX9 : ∀ w ∈ wsX90, w ∈ q_tb := by decide +kernel
theorem inX10 : ∀ w ∈ wsX100, w ∈ q_tb := by decide +kernel
theorem inX11 : ∀ w ∈ wsX110, w ∈ q_tb := by decide +kernel
end
section
/-! THE ABSTRACT MACHINE: values over Int, names for cells, a memory of Ints; q_vc computes what must hold; q_rule (part 04) says that it is enough -/
abbrev QV : Type := Int ⊕ Int ⊕ Int
abbrev QM : Type := Int → Int → Int
abbrev QK : Type := Nat ⊕ Int
abbrev QS : Type := (Nat × List QK) ⊕ ((Nat ⊕ (Nat × Int)) × Nat)
abbrev QL : Type := List (Option QV)
abbrev QP : Type := List QV → QM → (Option QV → QM → Prop) → Prop
abbrev QE : Type := Instr × Nat × List (Int × Nat)
def q_rf (ad : Int → Nat) (a : Int) : Option Nat := if a < 0 then none else some (ad a)
def q_cv (ad : Int → Nat) : QV → Value
  | .inl z => .int (Int32.ofInt z)
  | .inr (.inl z) => .long (Int64.ofInt z)
  | .inr (.inr a) => va_rf (q_rf ad a)
def q_ct : QV → Nat
  | .inl _ => 1
  | .inr (.inl _) => 2
  | .inr (.inr _) => 1
def q_sv (μ : QM) (a : Int) (k : Nat) : QK → QV
  | .inl 0 => .inl (μ a k)
  | .inl 1 => .inr (.inl (μ a k))
  | .inl 2 => .inl (μ a k)
  | .inl _ => .inr (.inr (μ a k))
  | .inr n => .inr (.inr n)
def q_arr (ad : Int → Nat) (μ : QM) (a : Int) : Nat ⊕ (Nat × Int) → (Nat → Int32) ⊕ (Nat → Int64) ⊕ (Nat → UInt32) ⊕ (Nat → UInt64) ⊕ (Nat → Option Nat)
  | .inl 1 => .inr (.inl (fun j => Int64.ofInt (μ a j)))
  | .inl 4 => .inr (.inr (.inr (.inr (fun j => q_rf ad (μ a j)))))
  | .inl 5 => .inr (.inr (.inr (.inr (fun j => q_rf ad (μ a j)))))
  | .inl _ => .inl (fun j => Int32.ofInt (μ a j))
  | .inr (_, b) => .inr (.inr (.inr (.inr (fun j => q_rf ad (b + j)))))
def q_akd : Nat ⊕ (Nat × Int) → Nat
  | .inl t => t
  | .inr (t, _) => t
def q_ent (ad : Int → Nat) (cy : Nat → ClassId) (μ : QM) (a : Int) : Option QS → va_E
  | some (.inl (ci, ks)) => .inr (ci, ks.mapIdx (fun k sk => q_cv ad (q_sv μ a k sk)))
  | some (.inr (t, n)) => .inl (cy (q_akd t), n, q_arr ad μ a t)
  | none => .inr (0, [])
def q_ws (T : Int → Option QS) (N : List Int) (ad : Int → Nat) (cy : Nat → ClassId) (μ : QM) : va_W := N.map (fun a => (ad a, q_ent ad cy μ a (T a)))
abbrev q_tys (cy : Nat → ClassId) : List (ClassId × FieldType) := [(cy 0, .int), (cy 1, .long), (cy 2, .boolean), (cy 3, .char), (cy 4, .object RX4), (cy 5, .array .int)]
def q_up (μ : QM) (a k z : Int) : QM := fun b j => if b = a ∧ j = k then z else μ b j
/-! locals -/
def q_lg : QL → Nat → Option QV
  | [], _ => none
  | x :: _, 0 => x
  | _ :: t, k + 1 => q_lg t k
def q_clr : Option QV → Option QV
  | some (.inr (.inl _)) => none
  | x => x
def q_l1 : QL → Nat → QV → QL
  | [], _, _ => []
  | _ :: t, 0, v => some v :: t
  | x :: t, k + 1, v => (match k with | 0 => q_clr x | _ => x) :: q_l1 t k v
def q_dr : QL → QL
  | [] => []
  | _ :: t => none :: t
def q_l2 : QL → Nat → QV → QL
  | [], _, _ => []
  | _ :: t, 0, v => some v :: q_dr t
  | x :: t, k + 1, v => (match k with | 0 => q_clr x | _ => x) :: q_l2 t k v
def q_prs (ad : Int → Nat) (ls : QL) : List (Nat × Value) := (List.range ls.length).filterMap (fun i => (q_lg ls i).map (fun v => (i, q_cv ad v)))
/-! operations on bits -/
def q_and (a b : Int) : Int := (Int32.ofInt a &&& Int32.ofInt b).toInt
def q_or (a b : Int) : Int := (Int32.ofInt a ||| Int32.ofInt b).toInt
def q_xor (a b : Int) : Int := (Int32.ofInt a ^^^ Int32.ofInt b).toInt
def q_shl (a b : Int) : Int := (Int32.ofInt a <<< (Int32.ofInt b &&& 31)).toInt
def q_shr (a b : Int) : Int := (Int32.ofInt a >>> (Int32.ofInt b &&& 31)).toInt
def q_ush (a b : Int) : Int := ((Int32.ofInt a).toUInt32 >>> ((Int32.ofInt b).toUInt32 &&& Int32.toUInt32 31)).toInt32.toInt
def q_cmp (a b : Int) : Int := if b < a then 1 else if a = b then 0 else -1
abbrev q_r (a : Int) : Prop := -2147483648 ≤ a ∧ a ≤ 2147483647
abbrev q_R (a : Int) : Prop := -9223372036854775808 ≤ a ∧ a ≤ 9223372036854775807
/-! pieces of the step -/
def q_int (o : Option QV) (f : Int → Prop) : Prop := match o with
  | some (.inl z) => f z
  | _ => False
def q_lng (o : Option QV) (f : Int → Prop) : Prop := match o with
  | some (.inr (.inl z)) => f z
  | _ => False
def q_ref (o : Option QV) (f : Int → Prop) : Prop := match o with
  | some (.inr (.inr z)) => 0 ≤ z ∧ f z
  | _ => False
def q_fd (o : Option QS) (ci k : Nat) (f : QK → Prop) : Prop := match o with
  | some (.inl (cj, ks)) => ci = cj ∧ (match ks[k]? with
    | some sk => f sk
    | none => False)
  | _ => False
def q_pf (sk : QK) (v : QV) (f : Int → Prop) : Prop := match sk, v with
  | .inl 0, .inl z => f z
  | .inl 1, .inr (.inl z) => f z
  | .inl 2, .inl z => (z = 0 ∨ z = 1) ∧ f z
  | .inl 3, .inr (.inr z) => f z
  | _, _ => False
def q_ar (o : Option QS) (t : Nat) (i : Int) (f : Prop) : Prop := match o with
  | some (.inr (.inl u, n)) => t = u ∧ n ≤ 2147483647 ∧ 0 ≤ i ∧ i < (n : Int) ∧ f
  | _ => False
def q_aa (o : Option QS) (i : Int) (f : Int → Prop) : Prop := match o with
  | some (.inr (.inr (t, b), n)) => (t = 4 ∨ t = 5) ∧ n ≤ 2147483647 ∧ 0 ≤ i ∧ i < (n : Int) ∧ f (b + i)
  | _ => False
def q_al (o : Option QS) (f : Int → Prop) : Prop := match o with
  | some (.inr (t, n)) => q_akd t ≤ 5 ∧ f (n : Int)
  | _ => False
def q_sw (a : Int) (g : Nat → Prop) : List (Int × Nat) → Prop
  | [] => False
  | (v, t) :: r => match r with
    | [] => g t
    | _ => (a = v → g t) ∧ (¬ a = v → q_sw a g r)
def q_br (tg : List (Int × Nat)) (g : Nat → Prop) : Prop := match tg with
  | [(_, t)] => g t
  | _ => False
def q_cats (st : List QV) : Nat := (st.map q_ct).sum
def q_rk (rk : Nat) (a : Int) : Prop := match rk with
  | 0 => True
  | 1 => a = 0 ∨ a = 1
  | 2 => 0 ≤ a ∧ a < 65536
  | _ => False
def q_inv (G : Nat × QP) (st : List QV) (μ : QM) (f : List QV → QM → Prop) : Prop := G.1 ≤ st.length ∧ q_cats (st.drop G.1) ≤ 8 ∧ G.2 (st.take G.1) μ (fun o μ' => f (o.toList ++ st.drop G.1) μ')
section QST
variable (fl : Nat → Nat × Nat) (ld : Nat → QV) (Γ : Nat → Nat × QP) (T : Int → Option QS) (rk : Nat) (Rt : Option QV → QM → Prop)
def q_stp (go : List QE → Nat → QL → List QV → QM → Prop) (ins : Instr) (nx : Nat) (tg : List (Int × Nat)) (r : List QE) (ls : QL) (st : List QV) (μ : QM) : Prop := match ins, st with
  | .iconst v, st => go r nx ls (.inl v :: st) μ
  | .bipush v, st => (-128 ≤ v ∧ v < 128) ∧ go r nx ls (.inl v :: st) μ
  | .sipush v, st => (-32768 ≤ v ∧ v < 32768) ∧ go r nx ls (.inl v :: st) μ
  | .lconst v, st => go r nx ls (.inr (.inl (v : Nat)) :: st) μ
  | .ldc i, st => q_ct (ld i) = 1 ∧ go r nx ls (ld i :: st) μ
  | .ldc_w i, st => q_int (some (ld i)) (fun z => go r nx ls (.inl z :: st) μ)
  | .ldc2_w i, st => q_lng (some (ld i)) (fun z => go r nx ls (.inr (.inl z) :: st) μ)
  | .iload_n k, st => q_int (q_lg ls k) (fun z => go r nx ls (.inl z :: st) μ)
  | .iload k, st => q_int (q_lg ls k) (fun z => go r nx ls (.inl z :: st) μ)
  | .lload_n k, st => q_lng (q_lg ls k) (fun z => go r nx ls (.inr (.inl z) :: st) μ)
  | .lload k, st => q_lng (q_lg ls k) (fun z => go r nx ls (.inr (.inl z) :: st) μ)
  | .aload_n k, st => q_ref (q_lg ls k) (fun z => go r nx ls (.inr (.inr z) :: st) μ)
  | .aload k, st => q_ref (q_lg ls k) (fun z => go r nx ls (.inr (.inr z) :: st) μ)
  | .istore_n k, .inl z :: st => go r nx (q_l1 ls k (.inl z)) st μ
  | .istore k, .inl z :: st => go r nx (q_l1 ls k (.inl z)) st μ
  | .lstore_n k, .inr (.inl z) :: st => go r nx (q_l2 ls k (.inr (.inl z))) st μ
  | .lstore k, .inr (.inl z) :: st => go r nx (q_l2 ls k (.inr (.inl z))) st μ
  | .astore_n k, .inr (.inr z) :: st => 0 ≤ z ∧ go r nx (q_l1 ls k (.inr (.inr z))) st μ
  | .astore k, .inr (.inr z) :: st => 0 ≤ z ∧ go r nx (q_l1 ls k (.inr (.inr z))) st μ
  | .iinc k v, st => q_int (q_lg ls k) (fun z => go r nx (q_l1 ls k (.inl (z + v))) st μ)
  | .iadd, .inl b :: .inl a :: st => go r nx ls (.inl (a + b) :: st) μ
  | .isub, .inl b :: .inl a :: st => go r nx ls (.inl (a - b) :: st) μ
  | .imul, .inl b :: .inl a :: st => go r nx ls (.inl (a * b) :: st) μ
  | .ineg, .inl a :: st => go r nx ls (.inl (-a) :: st) μ
  | .iand, .inl b :: .inl a :: st => go r nx ls (.inl (q_and a b) :: st) μ
  | .ior, .inl b :: .inl a :: st => go r nx ls (.inl (q_or a b) :: st) μ
  | .ixor, .inl b :: .inl a :: st => go r nx ls (.inl (q_xor a b) :: st) μ
  | .ishl, .inl b :: .inl a :: st => go r nx ls (.inl (q_shl a b) :: st) μ
  | .ishr, .inl b :: .inl a :: st => go r nx ls (.inl (q_shr a b) :: st) μ
  | .iushr, .inl b :: .inl a :: st => go r nx ls (.inl (q_ush a b) :: st) μ
  | .idiv, .inl b :: .inl a :: st => (0 ≤ a ∧ a ≤ 2147483647 ∧ 0 < b ∧ b ≤ 2147483647) ∧ go r nx ls (.inl (a / b) :: st) μ
  | .irem, .inl b :: .inl a :: st => (0 ≤ a ∧ a ≤ 2147483647 ∧ 0 < b ∧ b ≤ 2147483647) ∧ go r nx ls (.inl (a % b) :: st) μ
  | .ladd, .inr (.inl b) :: .inr (.inl a) :: st => go r nx ls (.inr (.inl (a + b)) :: st) μ
  | .lsub, .inr (.inl b) :: .inr (.inl a) :: st => go r nx ls (.inr (.inl (a - b)) :: st) μ
  | .lmul, .inr (.inl b) :: .inr (.inl a) :: st => go r nx ls (.inr (.inl (a * b)) :: st) μ
  | .lcmp, .inr (.inl b) :: .inr (.inl a) :: st => (q_R a ∧ q_R b) ∧ go r nx ls (.inl (q_cmp a b) :: st) μ
  | .i2l, .inl a :: st => q_r a ∧ go r nx ls (.inr (.inl a) :: st) μ
  | .l2i, .inr (.inl a) :: st => go r nx ls (.inl a :: st) μ
  | .i2c, .inl a :: st => (0 ≤ a ∧ a < 65536) ∧ go r nx ls (.inl a :: st) μ
  | .dup, v :: st => q_ct v = 1 ∧ go r nx ls (v :: v :: st) μ
  | .dup2, v :: w :: st => (q_ct v = 1 ∧ q_ct w = 1) ∧ go r nx ls (v :: w :: v :: w :: st) μ
  | .ifCond .eq _, .inl a :: st => q_r a ∧ (a = 0 → q_br tg (fun t => go [] t ls st μ)) ∧ (¬ a = 0 → go r nx ls st μ)
  | .ifCond .ne _, .inl a :: st => q_r a ∧ (¬ a = 0 → q_br tg (fun t => go [] t ls st μ)) ∧ (a = 0 → go r nx ls st μ)
  | .ifCond .lt _, .inl a :: st => q_r a ∧ (a < 0 → q_br tg (fun t => go [] t ls st μ)) ∧ (¬ a < 0 → go r nx ls st μ)
  | .ifCond .ge _, .inl a :: st => q_r a ∧ (0 ≤ a → q_br tg (fun t => go [] t ls st μ)) ∧ (¬ 0 ≤ a → go r nx ls st μ)
  | .ifCond .gt _, .inl a :: st => q_r a ∧ (0 < a → q_br tg (fun t => go [] t ls st μ)) ∧ (¬ 0 < a → go r nx ls st μ)
  | .ifCond .le _, .inl a :: st => q_r a ∧ (a ≤ 0 → q_br tg (fun t => go [] t ls st μ)) ∧ (¬ a ≤ 0 → go r nx ls st μ)
  | .if_icmp .eq _, .inl b :: .inl a :: st => (q_r a ∧ q_r b) ∧ (a = b → q_br tg (fun t => go [] t ls st μ)) ∧ (¬ a = b → go r nx ls st μ)
  | .if_icmp .ne _, .inl b :: .inl a :: st => (q_r a ∧ q_r b) ∧ (¬ a = b → q_br tg (fun t => go [] t ls st μ)) ∧ (a = b → go r nx ls st μ)
  | .if_icmp .lt _, .inl b :: .inl a :: st => (q_r a ∧ q_r b) ∧ (a < b → q_br tg (fun t => go [] t ls st μ)) ∧ (¬ a < b → go r nx ls st μ)
  | .if_icmp .ge _, .inl b :: .inl a :: st => (q_r a ∧ q_r b) ∧ (b ≤ a → q_br tg (fun t => go [] t ls st μ)) ∧ (¬ b ≤ a → go r nx ls st μ)
  | .if_icmp .gt _, .inl b :: .inl a :: st => (q_r a ∧ q_r b) ∧ (b < a → q_br tg (fun t => go [] t ls st μ)) ∧ (¬ b < a → go r nx ls st μ)
  | .if_icmp .le _, .inl b :: .inl a :: st => (q_r a ∧ q_r b) ∧ (a ≤ b → q_br tg (fun t => go [] t ls st μ)) ∧ (¬ a ≤ b → go r nx ls st μ)
  | .goto _, st => q_br tg (fun t => go [] t ls st μ)
  | .tableswitch _ _ _ _, .inl a :: st => q_r a ∧ q_sw a (fun t => go [] t ls st μ) tg
  | .lookupswitch _ _, .inl a :: st => q_r a ∧ q_sw a (fun t => go [] t ls st μ) tg
  | .ireturn, [.inl a] => q_rk rk a ∧ Rt (some (.inl a)) μ
  | .areturn, [.inr (.inr a)] => rk = 3 ∧ 0 ≤ a ∧ Rt (some (.inr (.inr a))) μ
  | .return_, [] => rk = 4 ∧ Rt none μ
  | .getfield i, .inr (.inr a) :: st => q_fd (T a) (fl i).1 (fl i).2 (fun sk => go r nx ls (q_sv μ a (fl i).2 sk :: st) μ)
  | .putfield i, v :: .inr (.inr a) :: st => q_fd (T a) (fl i).1 (fl i).2 (fun sk => q_pf sk v (fun z => go r nx ls st (q_up μ a (fl i).2 z)))
  | .iaload, .inl i :: .inr (.inr a) :: st => q_ar (T a) 0 i (go r nx ls (.inl (μ a i) :: st) μ)
  | .laload, .inl i :: .inr (.inr a) :: st => q_ar (T a) 1 i (go r nx ls (.inr (.inl (μ a i)) :: st) μ)
  | .baload, .inl i :: .inr (.inr a) :: st => q_ar (T a) 2 i (go r nx ls (.inl (μ a i) :: st) μ)
  | .caload, .inl i :: .inr (.inr a) :: st => q_ar (T a) 3 i (go r nx ls (.inl (μ a i) :: st) μ)
  | .aaload, .inl i :: .inr (.inr a) :: st => q_aa (T a) i (fun b => 0 ≤ b ∧ go r nx ls (.inr (.inr b) :: st) μ)
  | .iastore, .inl v :: .inl i :: .inr (.inr a) :: st => q_ar (T a) 0 i (go r nx ls st (q_up μ a i v))
  | .lastore, .inr (.inl v) :: .inl i :: .inr (.inr a) :: st => q_ar (T a) 1 i (go r nx ls st (q_up μ a i v))
  | .bastore, .inl v :: .inl i :: .inr (.inr a) :: st => q_ar (T a) 2 i ((v = 0 ∨ v = 1) ∧ go r nx ls st (q_up μ a i v))
  | .castore, .inl v :: .inl i :: .inr (.inr a) :: st => q_ar (T a) 3 i ((0 ≤ v ∧ v < 65536) ∧ go r nx ls st (q_up μ a i v))
  | .arraylength, .inr (.inr a) :: st => q_al (T a) (fun n => go r nx ls (.inl n :: st) μ)
  | .invokevirtual i, st => q_inv (Γ i) st μ (fun st' μ' => go r nx ls st' μ')
  | .invokestatic i, st => q_inv (Γ i) st μ (fun st' μ' => go r nx ls st' μ')
  | .invokespecial i, st => q_inv (Γ i) st μ (fun st' μ' => go r nx ls st' μ')
  | _, _ => False
def q_vc (sk : Nat → Option (List QE)) (S : Nat → QL → List QV → QM → Prop) : Nat → List QE → Nat → QL → List QV → QM → Prop
  | 0, _, _, _, _, _ => False
  | n + 1, [], pc, ls, st, μ => match sk pc with
    | none => S pc ls st μ
    | some b => q_vc sk S n b pc ls st μ
  | n + 1, (ins, nx, tg) :: r, _, ls, st, μ => q_stp fl ld Γ T rk Rt (q_vc sk S n) ins nx tg r ls st μ
end QST
/-! the table against the bytes -/
def q_sto (nL : Nat) : Instr → Bool
  | .istore_n k => decide ((k : Nat) < nL)
  | .istore k => decide (k < nL)
  | .astore_n k => decide ((k : Nat) < nL)
  | .astore k => decide (k < nL)
  | .lstore_n k => decide ((k : Nat) + 1 < nL)
  | .lstore k => decide (k + 1 < nL)
  | .iinc k _ => decide (k < nL)
  | _ => true
def q_tgt (pc : Nat) (tg : List (Int × Nat)) : Instr → Bool
  | .goto o => decide (tg.map (fun q => (q.2 : Int)) = [(pc : Int) + o])
  | .ifCond _ o => decide (tg.map (fun q => (q.2 : Int)) = [(pc : Int) + o])
  | .if_icmp _ o => decide (tg.map (fun q => (q.2 : Int)) = [(pc : Int) + o])
  | .tableswitch d lo hi offs => decide (tg.map (fun q => (q.1, (q.2 : Int))) = ((List.range offs.size).map (fun (i : Nat) => (lo + (i : Int), (pc : Int) + offs.getD i 0))) ++ [((0 : Int), (pc : Int) + d)] ∧ (offs.size : Int) = hi - lo + 1)
  | .lookupswitch d ps => decide (tg.map (fun q => (q.1, (q.2 : Int))) = (ps.toList.map (fun q => (q.1, (pc : Int) + q.2))) ++ [((0 : Int), (pc : Int) + d)] ∧ (ps.toList.zip (ps.toList.drop 1)).all (fun (a, next) => a.1 < next.1) = true)
  | _ => true
def q_len : Instr → Nat
  | .bipush _ => 2
  | .sipush _ => 3
  | .ldc _ => 2
  | .ldc_w _ => 3
  | .ldc2_w _ => 3
  | .iload _ => 2
  | .lload _ => 2
  | .aload _ => 2
  | .istore _ => 2
  | .lstore _ => 2
  | .astore _ => 2
  | .iinc _ _ => 3
  | .ifCond _ _ => 3
  | .if_icmp _ _ => 3
  | .goto _ => 3
  | .getfield _ => 3
  | .putfield _ => 3
  | .invokevirtual _ => 3
  | .invokestatic _ => 3
  | .invokespecial _ => 3
  | _ => 1
def q_dec (cc : ByteArray) (pc nx : Nat) (ins : Instr) : Bool := match ins with
  | .tableswitch a b c d => decide (decode cc pc = .ok (.tableswitch a b c d, nx - pc))
  | .lookupswitch a b => decide (decode cc pc = .ok (.lookupswitch a b, nx - pc))
  | i => decide (decode cc pc = .ok (i, q_len i) ∧ nx = pc + q_len i)
/-- fields read, fields written, numbers of the pool, texts of the pool, calls: virtual, static, special -/
abbrev QU : Type := List Nat × List Nat × List Nat × List Nat × List Nat × List Nat × List Nat
def q_use (u : QU) : Instr → Bool
  | .getfield i => decide (i ∈ u.1)
  | .putfield i => decide (i ∈ u.1 ∧ i ∈ u.2.1)
  | .ldc i => decide (i ∈ u.2.2.1 ∨ i ∈ u.2.2.2.1)
  | .ldc_w i => decide (i ∈ u.2.2.1)
  | .ldc2_w i => decide (i ∈ u.2.2.1)
  | .invokevirtual i => decide (i ∈ u.2.2.2.2.1)
  | .invokestatic i => decide (i ∈ u.2.2.2.2.2.1)
  | .invokespecial i => decide (i ∈ u.2.2.2.2.2.2)
  | _ => true
def q_ok (cc : ByteArray) (nL : Nat) (u : QU) : Nat → List QE → Bool
  | _, [] => true
  | pc, (ins, nx, tg) :: r => q_dec cc pc nx ins && q_sto nL ins && q_tgt pc tg ins && q_use u ins && q_ok cc nL u nx r
end
section
/-! numbers -/
theorem q_ti {a : Int} (h : q_r a) : (Int32.ofInt a).toInt = a := Int32.toInt_ofInt_of_le (by have := h.1; omega) (by have := h.2; omega)
theorem q_tl {a : Int} (h : q_R a) : (Int64.ofInt a).toInt = a := Int64.toInt_ofInt_of_le (by have := h.1; omega) (by have := h.2; omega)
theorem q_eq {a b : Int} (ha : q_r a) (hb : q_r b) : Int32.ofInt a = Int32.ofInt b ↔ a = b := by rw [← Int32.toInt_inj, q_ti ha, q_ti hb]
theorem q_lt {a b : Int} (ha : q_r a) (hb : q_r b) : Int32.ofInt a < Int32.ofInt b ↔ a < b := by rw [Int32.lt_iff_toInt_lt, q_ti ha, q_ti hb]
theorem q_le {a b : Int} (ha : q_r a) (hb : q_r b) : Int32.ofInt a ≤ Int32.ofInt b ↔ a ≤ b := by rw [Int32.le_iff_toInt_le, q_ti ha, q_ti hb]
theorem q_r0 : q_r 0 := by decide
theorem q_eq0 {a : Int} (ha : q_r a) : Int32.ofInt a = 0 ↔ a = 0 := q_eq ha q_r0
theorem q_lt0 {a : Int} (ha : q_r a) : Int32.ofInt a < 0 ↔ a < 0 := q_lt ha q_r0
theorem q_ge0 {a : Int} (ha : q_r a) : (0 : Int32) ≤ Int32.ofInt a ↔ 0 ≤ a := q_le q_r0 ha
theorem q_gt0 {a : Int} (ha : q_r a) : (0 : Int32) < Int32.ofInt a ↔ 0 < a := q_lt q_r0 ha
theorem q_le0 {a : Int} (ha : q_r a) : Int32.ofInt a ≤ 0 ↔ a ≤ 0 := q_le ha q_r0
theorem q_cl {a : Int} (h0 : 0 ≤ a) (h1 : a ≤ 2147483647) : (Int32.ofInt a).toNatClampNeg = a.toNat := Int32.toNatClampNeg_ofInt_of_le (by omega) (by omega)
theorem q_in {i : Int} {n : Nat} (hn : n ≤ 2147483647) (h0 : 0 ≤ i) (h1 : i < (n : Int)) : vp_in (Int32.ofInt i) n := by
  unfold vp_in
  rw [q_cl h0 (by omega), q_lt0 ⟨by omega, by omega⟩]
  omega
theorem q_nat {i : Int} (h0 : 0 ≤ i) : ((i.toNat : Nat) : Int) = i := Int.toNat_of_nonneg h0
theorem q_cmpS {a b : Int} (ha : q_R a) (hb : q_R b) : lg_cmp (Int64.ofInt a) (Int64.ofInt b) = Int32.ofInt (q_cmp a b) := by
  unfold lg_cmp q_cmp
  have h1 : Int64.ofInt a > Int64.ofInt b ↔ b < a := by
    show Int64.ofInt b < Int64.ofInt a ↔ b < a
    rw [Int64.lt_iff_toInt_lt, q_tl ha, q_tl hb]
  have h2 : Int64.ofInt a = Int64.ofInt b ↔ a = b := by rw [← Int64.toInt_inj, q_tl ha, q_tl hb]
  by_cases c1 : b < a
  · rw [if_pos (h1.mpr c1), if_pos c1]; rfl
  · rw [if_neg (fun q => c1 (h1.mp q)), if_neg c1]
    by_cases c2 : a = b
    · rw [if_pos (h2.mpr c2), if_pos c2]; rfl
    · rw [if_neg (fun q => c2 (h2.mp q)), if_neg c2]; rfl
theorem q_divS {a b : Int} (h : 0 ≤ a ∧ a ≤ 2147483647 ∧ 0 < b ∧ b ≤ 2147483647) : Int32.ofInt a / Int32.ofInt b = Int32.ofInt (a / b) := by
  obtain ⟨h1, h2, h3, h4⟩ := h
  rw [← Int.tdiv_eq_ediv_of_nonneg h1]
  exact (Int32.ofInt_tdiv (by show (-2147483648 : Int) ≤ a; omega) (by show a ≤ (2147483647 : Int); omega) (by show (-2147483648 : Int) ≤ b; omega) (by show b ≤ (2147483647 : Int); omega)).symm
theorem q_remS {a b : Int} (h : 0 ≤ a ∧ a ≤ 2147483647 ∧ 0 < b ∧ b ≤ 2147483647) : Int32.ofInt a - Int32.ofInt a / Int32.ofInt b * Int32.ofInt b = Int32.ofInt (a % b) := by
  rw [q_divS h, ← Int32.ofInt_mul, ← Int32.ofInt_sub]
  congr 1
  have := Int.emod_add_mul_ediv a b
  have h2 := Int.mul_comm b (a / b)
  omega
theorem q_i2l {a : Int} (h : q_r a) : (Int32.ofInt a).toInt64 = Int64.ofInt a := Int32.toInt64_ofInt (by show (-2147483648 : Int) ≤ a; exact h.1) (by show a ≤ (2147483647 : Int); exact h.2)
theorem q_i2c {a : Int} (h0 : 0 ≤ a) (h1 : a < 65536) : ((Int32.ofInt a).toUInt32 % 65536).toInt32 = Int32.ofInt a := by
  have h : (Int32.ofInt a).toInt = a := q_ti ⟨by omega, by omega⟩
  exact lg_i2c_word (by omega) (by omega)
theorem q_bip {v : Int} (h : -128 ≤ v ∧ v < 128) : (Int8.ofInt v).toInt32 = Int32.ofInt v := by
  rw [← Int32.ofInt_int8ToInt, Int8.toInt_ofInt_of_le (by omega) (by omega)]
theorem q_sip {v : Int} (h : -32768 ≤ v ∧ v < 32768) : (Int16.ofInt v).toInt32 = Int32.ofInt v := by
  rw [← Int32.ofInt_int16ToInt, Int16.toInt_ofInt_of_le (by omega) (by omega)]
theorem q_ctv (ad : Int → Nat) (v : QV) : (q_cv ad v).category = q_ct v := by
  rcases v with z | z | z
  · rfl
  · rfl
  · show (va_rf (q_rf ad z)).category = 1
    unfold q_rf
    split <;> rfl
theorem q_catsS (ad : Int → Nat) (st : List QV) : ((st.map (q_cv ad)).map fun v => v.category).sum = q_cats st := by
  unfold q_cats
  rw [List.map_map]
  congr 1
  exact List.map_congr_left (fun v _ => q_ctv ad v)
/-! locals -/
theorem q_lgn : ∀ (ls : QL) (i : Nat) (v : QV), q_lg ls i = some v → i < ls.length
  | [], _, _, h => by cases h
  | _ :: _, 0, _, _ => by simp
  | _ :: t, k + 1, v, h => by
    have := q_lgn t k v h
    simp only [List.length_cons]
    omega
theorem q_mem {ad : Int → Nat} {ls : QL} {i : Nat} {v : QV} (h : q_lg ls i = some v) : (i, q_cv ad v) ∈ q_prs ad ls := by
  unfold q_prs
  refine List.mem_filterMap.mpr ⟨i, List.mem_range.mpr (q_lgn ls i v h), ?_⟩
  rw [h]
  rfl
theorem q_mem2 {ad : Int → Nat} {ls : QL} {q : Nat × Value} (h : q ∈ q_prs ad ls) : ∃ v, q_lg ls q.1 = some v ∧ q.2 = q_cv ad v := by
  unfold q_prs at h
  obtain ⟨i, -, hi⟩ := List.mem_filterMap.mp h
  cases hv : q_lg ls i with
  | none => rw [hv] at hi; cases hi
  | some v => rw [hv] at hi; cases hi; exact ⟨v, hv, rfl⟩
theorem q_clr_some {x : Option QV} {w : QV} (h : q_clr x = some w) : x = some w ∧ ¬ q_ct w = 2 := by
  rcases x with _ | z | z | z
  · cases h
  · cases h; exact ⟨rfl, by simp [q_ct]⟩
  · cases h
  · cases h; exact ⟨rfl, by simp [q_ct]⟩
theorem q_l1g : ∀ (ls : QL) (i : Nat) (v : QV) (j : Nat) (w : QV), q_lg (q_l1 ls i v) j = some w → (j = i ∧ w = v) ∨ (j ≠ i ∧ q_lg ls j = some w ∧ ¬ (j + 1 = i ∧ q_ct w = 2))
  | [], _, _, _, _, h => by cases h
  | x :: t, 0, v, 0, w, h => Or.inl ⟨rfl, by cases h; rfl⟩
  | x :: t, 0, v, j + 1, w, h => Or.inr ⟨by omega, h, by omega⟩
  | x :: t, k + 1, v, 0, w, h => by
    refine Or.inr ⟨by omega, ?_⟩
    cases k with
    | zero =>
      have h1 : q_clr x = some w := h
      obtain ⟨a, b⟩ := q_clr_some h1
      exact ⟨a, fun q => b q.2⟩
    | succ k =>
      have h1 : x = some w := h
      exact ⟨h1, by omega⟩
  | x :: t, k + 1, v, j + 1, w, h => by
    have h1 : q_lg (q_l1 t k v) j = some w := h
    rcases q_l1g t k v j w h1 with ⟨a, b⟩ | ⟨a, b, c⟩
    · exact Or.inl ⟨by omega, b⟩
    · exact Or.inr ⟨by omega, b, by omega⟩
theorem q_l1n : ∀ (ls : QL) (i : Nat) (v : QV), (q_l1 ls i v).length = ls.length
  | [], _, _ => rfl
  | _ :: _, 0, _ => rfl
  | _ :: t, k + 1, v => by
    show (q_l1 t k v).length + 1 = _
    rw [q_l1n t k v]
    rfl
theorem q_drg : ∀ (ls : QL) (j : Nat) (w : QV), q_lg (q_dr ls) j = some w → j ≠ 0 ∧ q_lg ls j = some w
  | [], _, _, h => by cases h
  | x :: t, 0, w, h => by cases h
  | x :: t, j + 1, w, h => ⟨by omega, h⟩
theorem q_drn (ls : QL) : (q_dr ls).length = ls.length := by cases ls <;> rfl
theorem q_l2g : ∀ (ls : QL) (i : Nat) (v : QV) (j : Nat) (w : QV), q_lg (q_l2 ls i v) j = some w → (j = i ∧ w = v) ∨ (j ≠ i ∧ j ≠ i + 1 ∧ q_lg ls j = some w ∧ ¬ (j + 1 = i ∧ q_ct w = 2))
  | [], _, _, _, _, h => by cases h
  | x :: t, 0, v, 0, w, h => Or.inl ⟨rfl, by cases h; rfl⟩
  | x :: t, 0, v, j + 1, w, h => by
    have h1 : q_lg (q_dr t) j = some w := h
    obtain ⟨a, b⟩ := q_drg t j w h1
    exact Or.inr ⟨by omega, by omega, b, by omega⟩
  | x :: t, k + 1, v, 0, w, h => by
    refine Or.inr ⟨by omega, by omega, ?_⟩
    cases k with
    | zero =>
      have h1 : q_clr x = some w := h
      obtain ⟨a, b⟩ := q_clr_some h1
      exact ⟨a, fun q => b q.2⟩
    | succ k =>
      have h1 : x = some w := h
      exact ⟨h1, by omega⟩
  | x :: t, k + 1, v, j + 1, w, h => by
    have h1 : q_lg (q_l2 t k v) j = some w := h
    rcases q_l2g t k v j w h1 with ⟨a, b⟩ | ⟨a, b, c, d⟩
    · exact Or.inl ⟨by omega, b⟩
    · exact Or.inr ⟨by omega, by omega, c, by omega⟩
theorem q_l2n : ∀ (ls : QL) (i : Nat) (v : QV), (q_l2 ls i v).length = ls.length
  | [], _, _ => rfl
  | _ :: t, 0, v => by
    show (q_dr t).length + 1 = _
    rw [q_drn]
    rfl
  | _ :: t, k + 1, v => by
    show (q_l2 t k v).length + 1 = _
    rw [q_l2n t k v]
    rfl
theorem q_get {ad : Int → Nat} {la : Array Slot} {nL : Nat} {ls : QL} {i : Nat} {v : QV} (h : lv_has la nL (q_prs ad ls)) (hv : q_lg ls i = some v) : la[i]? = some (.val (q_cv ad v)) := h.2.2 _ (q_mem hv)
theorem q_put1 {ad : Int → Nat} {la : Array Slot} {nL : Nat} {ls : QL} {i : Nat} {v : QV} (h : lv_has la nL ((i, q_cv ad v) :: (q_prs ad ls).filter (fun q => !(q.1 == i) && !(q.1 + 1 == i && q.2.category == 2)))) : lv_has la nL (q_prs ad (q_l1 ls i v)) := by
  refine ⟨h.1, h.2.1, fun q hq => h.2.2 q ?_⟩
  obtain ⟨w, h1, h2⟩ := q_mem2 hq
  rcases q_l1g ls i v q.1 w h1 with ⟨a, b⟩ | ⟨a, b, c⟩
  · obtain ⟨q1, q2⟩ := q
    cases a; cases b; cases h2
    exact List.mem_cons_self
  · refine List.mem_cons_of_mem _ (List.mem_filter.mpr ⟨?_, ?_⟩)
    · obtain ⟨q1, q2⟩ := q
      cases h2
      exact q_mem b
    · rw [h2, q_ctv]
      simp only [Bool.and_eq_true, Bool.not_eq_true', beq_eq_false_iff_ne, ne_eq, Bool.and_eq_false_imp, beq_iff_eq]
      exact ⟨a, fun e1 e2 => c ⟨e1, e2⟩⟩
theorem q_put2 {ad : Int → Nat} {la : Array Slot} {nL : Nat} {ls : QL} {i : Nat} {v : QV} (h : lv_has la nL ((i, q_cv ad v) :: (q_prs ad ls).filter (fun q => !(q.1 == i) && (!(q.1 == i + 1) && !(q.1 + 1 == i && q.2.category == 2))))) : lv_has la nL (q_prs ad (q_l2 ls i v)) := by
  refine ⟨h.1, h.2.1, fun q hq => h.2.2 q ?_⟩
  obtain ⟨w, h1, h2⟩ := q_mem2 hq
  rcases q_l2g ls i v q.1 w h1 with ⟨a, b⟩ | ⟨a, b, c, d⟩
  · obtain ⟨q1, q2⟩ := q
    cases a; cases b; cases h2
    exact List.mem_cons_self
  · refine List.mem_cons_of_mem _ (List.mem_filter.mpr ⟨?_, ?_⟩)
    · obtain ⟨q1, q2⟩ := q
      cases h2
      exact q_mem c
    · rw [h2, q_ctv]
      simp only [Bool.and_eq_true, Bool.not_eq_true', beq_eq_false_iff_ne, ne_eq, Bool.and_eq_false_imp, beq_iff_eq]
      exact ⟨a, b, fun e1 e2 => d ⟨e1, e2⟩⟩
/-! worlds -/
theorem q_wsg {T : Int → Option QS} {N : List Int} {ad : Int → Nat} {cy : Nat → ClassId} {μ : QM} {a : Int} (h : a ∈ N) : ∃ k : Nat, N[k]? = some a ∧ (q_ws T N ad cy μ)[k]? = some (ad a, q_ent ad cy μ a (T a)) := by
  obtain ⟨k, hk⟩ := List.getElem?_of_mem h
  exact ⟨k, hk, by unfold q_ws; rw [List.getElem?_map, hk]; rfl⟩
theorem q_wss {T : Int → Option QS} {N : List Int} {ad : Int → Nat} {cy : Nat → ClassId} {μ μ' : QM} {a : Int} {k : Nat} {e : va_E} (hN : ∀ (i j : Nat) (a : Int), N[i]? = some a → N[j]? = some a → i = j) (hk : N[k]? = some a) (he : e = q_ent ad cy μ' a (T a)) (ho : ∀ b, b ≠ a → q_ent ad cy μ' b (T b) = q_ent ad cy μ b (T b)) : (q_ws T N ad cy μ).set k (ad a, e) = q_ws T N ad cy μ' := by
  subst he
  have hl : k < N.length := (List.getElem?_eq_some_iff.mp hk).1
  refine List.ext_getElem? fun j => ?_
  unfold q_ws
  by_cases hj : j = k
  · subst hj
    rw [List.getElem?_set_self (by rw [List.length_map]; exact hl), List.getElem?_map, hk]
    rfl
  · rw [List.getElem?_set_ne (Ne.symm hj), List.getElem?_map, List.getElem?_map]
    cases hb : N[j]? with
    | none => rfl
    | some b =>
      have hne : b ≠ a := fun q => hj (hN j k a (by rw [hb, q]) hk)
      show some (ad b, q_ent ad cy μ b (T b)) = some (ad b, q_ent ad cy μ' b (T b))
      rw [ho b hne]
theorem q_upo {ad : Int → Nat} {cy : Nat → ClassId} {μ : QM} {a k z b : Int} (o : Option QS) (h : b ≠ a) : q_ent ad cy (q_up μ a k z) b o = q_ent ad cy μ b o := by
  have e : ∀ j, q_up μ a k z b j = μ b j := fun j => by simp [q_up, h]
  have e1 : ∀ (j : Nat) (sk : QK), q_sv (q_up μ a k z) b j sk = q_sv μ b j sk := by
    intro j sk
    unfold q_sv
    split <;> simp only [e]
  have e2 : ∀ t, q_arr ad (q_up μ a k z) b t = q_arr ad μ b t := by
    intro t
    unfold q_arr
    split <;> simp only [e]
  rcases o with _ | ⟨ci, ks⟩ | ⟨t, n⟩
  · rfl
  · simp only [q_ent, e1]
  · simp only [q_ent, e2]
end
section
/-! what q_stp says is enough: each instruction by the kit's row -/
/-- the machine at pc with these locals, this stack, this memory comes to Q -/
def q_SW (p : Program) (l : Launch) (e : Env) (R : Room) (s : State) (m : MethodId) (args : Array Value) (below : List Frame) (meth : Method) (c : Code) (A : Nat → Prop) (H0 : Heap) (T : Int → Option QS) (N : List Int) (ad : Int → Nat) (D : va_G) (cy : Nat → ClassId) (nL : Nat) (Q : State → Prop) (pc : Nat) (ls : QL) (st : List QV) (μ : QM) : Prop :=
  ls.length = nL → ∀ (H : Heap) (locs : List Loc) (la : Array Slot), va_P D vwCl (q_ws T N ad cy μ) H → va_D A (q_ws T N ad cy μ) → va_S A H0 H locs → lv_has la nL (q_prs ad ls) → W p l e R s m args below meth c H locs 0 0 Q (F0 m pc la (st.map (q_cv ad)))
def q_kt (sk : QK) (ty : FieldType) : Prop := match sk with
  | .inl 0 => ty = .int
  | .inl 1 => ty = .long
  | .inl 2 => ty = .boolean
  | .inl 3 => (∃ n, ty = .object n) ∨ ∃ t, ty = .array t
  | _ => True
def q_kok (q : vw_C) (ks : List QK) : Prop := ks.length = q.2.2 ∧ ∀ (k : Nat) (sk : QK), ks[k]? = some sk → ∃ ty, parseFieldDescriptor (q.2.1 k).2.2.1 = some ty ∧ q_kt sk ty
/-- what is fixed in a body -/
def q_Fix (p : Program) (s : State) (m : MethodId) (args : Array Value) (meth : Method) (c : Code) (T : Int → Option QS) (N : List Int) (D : va_G) (cy : Nat → ClassId) (own : String) (cc : ByteArray) : Prop :=
  p.tables.exec = Jvm.exec ∧ c.code = cc ∧ s.vm.findClass own = some m.cls ∧ (∀ w ∈ q_tb, w.before args s = true) ∧ va_K D vwCl (q_tys cy) s ∧ meth.locks = false ∧
  (∀ (i j : Nat) (a : Int), N[i]? = some a → N[j]? = some a → i = j) ∧ (∀ (a : Int) (sh : QS), T a = some sh → a ∈ N ∧ 0 ≤ a) ∧ (∀ (a : Int) (ci : Nat) (ks : List QK) (q : vw_C), T a = some (.inl (ci, ks)) → vwCl[ci]? = some q → q_kok q ks)
/-- the fields' pool entries -/
def q_fok (own : String) (fl : Nat → Nat × Nat) (is : List Nat) : Prop := ∀ i ∈ is, ∃ q : vw_C, vwCl[(fl i).1]? = some q ∧ (fl i).2 < q.2.2 ∧ q.1 = (q.2.1 (fl i).2).1 ∧ Cond.fieldLink own i (q.2.1 (fl i).2).1 (q.2.1 (fl i).2).2.1 (q.2.1 (fl i).2).2.2.1 ∈ q_tb
def q_fokP (own : String) (fl : Nat → Nat × Nat) (is : List Nat) : Prop := ∀ i ∈ is, ∃ q : vw_C, vwCl[(fl i).1]? = some q ∧ (q.2.1 (fl i).2).2.2.2 = false
theorem q_cls {q : vw_C} (hq : q ∈ vwCl) : (∀ w ∈ u_ws q.1 q.2.1 q.2.2, w ∈ q_tb) ∧ ∃ ty0 : Nat → FieldType, (∀ k, k < q.2.2 → parseFieldDescriptor (q.2.1 k).2.2.1 = some (ty0 k)) ∧ ∀ a, a < q.2.2 → ∀ b, b < q.2.2 → a ≠ b → (q.2.1 a).2.1 ≠ (q.2.1 b).2.1 := by
  simp only [vwCl, List.mem_cons, List.not_mem_nil, or_false] at hq
  rcases hq with rfl | rfl | rfl | rfl | rfl | rfl | rfl | rfl | rfl | rfl | rfl | rfl
  · exact ⟨inX0, tyX0, tyX0_ok, nmX0⟩
  · exact ⟨inX1, tyX1, tyX1_ok, nmX1⟩
  · exact ⟨inX2, tyX2, tyX2_ok, nmX2⟩
  · exact ⟨inX3, tyX3, tyX3_ok, nmX3⟩
  · exact ⟨inX4, tyX4, tyX4_ok, nmX4⟩
  · exact ⟨inX5, tyX5, tyX5_ok, nmX5⟩
  · exact ⟨inX6, tyX6, tyX6_ok, nmX6⟩
  · exact ⟨inX7, tyX7, tyX7_ok, nmX7⟩
  · exact ⟨inX8, tyX8, tyX8_ok, nmX8⟩
  · exact ⟨inX9, tyX9, tyX9_ok, nmX9⟩
  · exact ⟨inX10, tyX10, tyX10_ok, nmX10⟩
  · exact ⟨inX11, tyX11, tyX11_ok, nmX11⟩
section QS5
variable {p : Program} {l : Launch} {e : Env} {R : Room} {s : State} {m : MethodId} {args : Array Value} {below : List Frame} {meth : Method} {c : Code} {A : Nat → Prop} {H0 : Heap} {T : Int → Option QS} {N : List Int} {ad : Int → Nat} {D : va_G} {cy : Nat → ClassId} {nL : Nat} {Q : State → Prop} {own : String} {cc : ByteArray}
variable {pc nx : Nat} {ls : QL} {st : List QV} {μ : QM}
theorem q_refv {z : Int} (h : 0 ≤ z) : q_cv ad (.inr (.inr z)) = .ref (ad z) := by
  show va_rf (q_rf ad z) = _
  unfold q_rf
  rw [if_neg (by omega)]
  rfl
theorem q_loadI (F : q_Fix p s m args meth c T N D cy own cc) {k : Nat} (hd : (∃ f : Fin 4, (f : Nat) = k ∧ decode cc pc = .ok (.iload_n f, 1) ∧ nx = pc + 1) ∨ (decode cc pc = .ok (.iload k, 2) ∧ nx = pc + 2)) {z : Int} (hv : q_lg ls k = some (.inl z))
    (K : q_SW p l e R s m args below meth c A H0 T N ad D cy nL Q nx ls (.inl z :: st) μ) : q_SW p l e R s m args below meth c A H0 T N ad D cy nL Q pc ls st μ := by
  intro hn H locs la hP hD hS hl
  rcases hd with ⟨f, hf, hd, rfl⟩ | ⟨hd, rfl⟩
  · exact lv_iload_n F.1 F.2.1 hd hf (q_get hl hv) (K hn H locs la hP hD hS hl)
  · exact lv_iload F.1 F.2.1 hd (q_get hl hv) (K hn H locs la hP hD hS hl)
theorem q_loadL (F : q_Fix p s m args meth c T N D cy own cc) {k : Nat} (hd : (∃ f : Fin 4, (f : Nat) = k ∧ decode cc pc = .ok (.lload_n f, 1) ∧ nx = pc + 1) ∨ (decode cc pc = .ok (.lload k, 2) ∧ nx = pc + 2)) {z : Int} (hv : q_lg ls k = some (.inr (.inl z)))
    (K : q_SW p l e R s m args below meth c A H0 T N ad D cy nL Q nx ls (.inr (.inl z) :: st) μ) : q_SW p l e R s m args below meth c A H0 T N ad D cy nL Q pc ls st μ := by
  intro hn H locs la hP hD hS hl
  rcases hd with ⟨f, hf, hd, rfl⟩ | ⟨hd, rfl⟩
  · exact lv_lload_n F.1 F.2.1 hd hf (q_get hl hv) (K hn H locs la hP hD hS hl)
  · exact lv_lload F.1 F.2.1 hd (q_get hl hv) (K hn H locs la hP hD hS hl)
theorem q_loadA (F : q_Fix p s m args meth c T N D cy own cc) {k : Nat} (hd : (∃ f : Fin 4, (f : Nat) = k ∧ decode cc pc = .ok (.aload_n f, 1) ∧ nx = pc + 1) ∨ (decode cc pc = .ok (.aload k, 2) ∧ nx = pc + 2)) {z : Int} (h0 : 0 ≤ z) (hv : q_lg ls k = some (.inr (.inr z)))
    (K : q_SW p l e R s m args below meth c A H0 T N ad D cy nL Q nx ls (.inr (.inr z) :: st) μ) : q_SW p l e R s m args below meth c A H0 T N ad D cy nL Q pc ls st μ := by
  intro hn H locs la hP hD hS hl
  have hv := q_get hl hv
  have K := K hn H locs la hP hD hS hl
  rw [List.map_cons, q_refv h0] at K
  rw [q_refv h0] at hv
  rcases hd with ⟨f, hf, hd, rfl⟩ | ⟨hd, rfl⟩
  · exact lv_aload_n F.1 F.2.1 hd hf hv K
  · exact lv_aload F.1 F.2.1 hd hv K
theorem q_storeI (F : q_Fix p s m args meth c T N D cy own cc) {k : Nat} (hk : k < nL) (hd : (∃ f : Fin 4, (f : Nat) = k ∧ decode cc pc = .ok (.istore_n f, 1) ∧ nx = pc + 1) ∨ (decode cc pc = .ok (.istore k, 2) ∧ nx = pc + 2)) {z : Int}
    (K : q_SW p l e R s m args below meth c A H0 T N ad D cy nL Q nx (q_l1 ls k (.inl z)) st μ) : q_SW p l e R s m args below meth c A H0 T N ad D cy nL Q pc ls (.inl z :: st) μ := by
  intro hn H locs la hP hD hS hl
  have K := fun la' h => K ((q_l1n ls k (.inl z)).trans hn) H locs la' hP hD hS (q_put1 h)
  rcases hd with ⟨f, hf, hd, rfl⟩ | ⟨hd, rfl⟩
  · exact lv_istore_n F.1 F.2.1 hd hf hl hk rfl K
  · exact lv_istore F.1 F.2.1 hd hl hk rfl K
theorem q_storeA (F : q_Fix p s m args meth c T N D cy own cc) {k : Nat} (hk : k < nL) (hd : (∃ f : Fin 4, (f : Nat) = k ∧ decode cc pc = .ok (.astore_n f, 1) ∧ nx = pc + 1) ∨ (decode cc pc = .ok (.astore k, 2) ∧ nx = pc + 2)) {z : Int} (h0 : 0 ≤ z)
    (K : q_SW p l e R s m args below meth c A H0 T N ad D cy nL Q nx (q_l1 ls k (.inr (.inr z))) st μ) : q_SW p l e R s m args below meth c A H0 T N ad D cy nL Q pc ls (.inr (.inr z) :: st) μ := by
  intro hn H locs la hP hD hS hl
  have K := fun la' h => K ((q_l1n ls k (.inr (.inr z))).trans hn) H locs la' hP hD hS (q_put1 h)
  rw [q_refv h0] at K
  rw [List.map_cons, q_refv h0]
  rcases hd with ⟨f, hf, hd, rfl⟩ | ⟨hd, rfl⟩
  · exact lv_astore_n F.1 F.2.1 hd hf hl hk rfl K
  · exact lv_astore F.1 F.2.1 hd hl hk rfl K
theorem q_storeL (F : q_Fix p s m args meth c T N D cy own cc) {k : Nat} (hk : k + 1 < nL) (hd : (∃ f : Fin 4, (f : Nat) = k ∧ decode cc pc = .ok (.lstore_n f, 1) ∧ nx = pc + 1) ∨ (decode cc pc = .ok (.lstore k, 2) ∧ nx = pc + 2)) {z : Int}
    (K : q_SW p l e R s m args below meth c A H0 T N ad D cy nL Q nx (q_l2 ls k (.inr (.inl z))) st μ) : q_SW p l e R s m args below meth c A H0 T N ad D cy nL Q pc ls (.inr (.inl z) :: st) μ := by
  intro hn H locs la hP hD hS hl
  have K := fun la' h => K ((q_l2n ls k (.inr (.inl z))).trans hn) H locs la' hP hD hS (q_put2 h)
  rcases hd with ⟨f, hf, hd, rfl⟩ | ⟨hd, rfl⟩
  · exact lv_lstore_n F.1 F.2.1 hd hf hl hk rfl K
  · exact lv_lstore F.1 F.2.1 hd hl hk rfl K
theorem q_iinc (F : q_Fix p s m args meth c T N D cy own cc) {k : Nat} {v : Int} (hk : k < nL) (hd : decode cc pc = .ok (.iinc k v, 3)) {z : Int} (hv : q_lg ls k = some (.inl z))
    (K : q_SW p l e R s m args below meth c A H0 T N ad D cy nL Q (pc + 3) (q_l1 ls k (.inl (z + v))) st μ) : q_SW p l e R s m args below meth c A H0 T N ad D cy nL Q pc ls st μ := by
  intro hn H locs la hP hD hS hl
  have K := fun la' h => K ((q_l1n ls k (.inl (z + v))).trans hn) H locs la' hP hD hS (q_put1 h)
  obtain ⟨k9, hk9⟩ := List.getElem?_of_mem (q_mem (ad := ad) hv)
  exact lv_iinc F.1 F.2.1 hd hl hk9 (Int32.ofInt_add z v).symm hk rfl K
theorem q_fget (F : q_Fix p s m args meth c T N D cy own cc) {fl : Nat → Nat × Nat} {is : List Nat} (hf : q_fok own fl is) {i : Nat} (hi : i ∈ is) (hd : decode cc pc = .ok (.getfield i, 3)) {a : Int}
    (K : q_fd (T a) (fl i).1 (fl i).2 (fun sk => q_SW p l e R s m args below meth c A H0 T N ad D cy nL Q (pc + 3) ls (q_sv μ a (fl i).2 sk :: st) μ)) : q_SW p l e R s m args below meth c A H0 T N ad D cy nL Q pc ls (.inr (.inr a) :: st) μ := by
  intro hn H locs la hP hD hS hl
  obtain ⟨hx, hb, hown, hts, hK, hlk, hN, hT, hTl⟩ := F
  unfold q_fd at K
  cases hTa : T a with
  | none => rw [hTa] at K; exact K.elim
  | some sh =>
    obtain ⟨hm, h0⟩ := hT a sh hTa
    rw [hTa] at K
    rcases sh with ⟨cj, ks⟩ | x
    · obtain ⟨hc, K⟩ := K
      subst hc
      obtain ⟨q, h1, h2, h3, h4⟩ := hf i hi
      cases hk : ks[(fl i).2]? with
      | none => rw [hk] at K; exact K.elim
      | some sk =>
        rw [hk] at K
        obtain ⟨k9, hk9, hw9⟩ := q_wsg (T := T) (ad := ad) (cy := cy) (μ := μ) hm
        rw [hTa] at hw9
        rw [List.map_cons, q_refv h0]
        have hin := (q_cls (List.mem_of_getElem? h1)).1
        exact va_get (ci := (fl i).1) hx hb hts hin hown hK hP k9 hw9 h1 (fl i).2 h2 (hts _ h4) (fun _ h9 => h9) (by rw [List.getElem?_mapIdx, hk]; rfl) hd (K hn H locs la hP hD hS hl)
    · exact K.elim
theorem q_kty {ad : Int → Nat} {sk : QK} {v : QV} {ty : FieldType} {f : Int → Prop} (h : q_kt sk ty) (hp : q_pf sk v f) : narrow ty (q_cv ad v) = q_cv ad v ∧ fits ty (q_cv ad v) = true ∧ ∃ z, f z ∧ ∀ (μ : QM) (a : Int) (k : Nat), q_sv (q_up μ a k z) a k sk = v := by
  unfold q_pf at hp
  split at hp
  · cases h
    exact ⟨rfl, rfl, _, hp, fun μ a k => by simp [q_sv, q_up]⟩
  · cases h
    exact ⟨rfl, rfl, _, hp, fun μ a k => by simp [q_sv, q_up]⟩
  · cases h
    obtain ⟨h1, hp⟩ := hp
    refine ⟨?_, ?_, _, hp, fun μ a k => by simp [q_sv, q_up]⟩
    · rcases h1 with rfl | rfl
      · show narrow .boolean (.int (Int32.ofInt 0)) = .int (Int32.ofInt 0); decide
      · show narrow .boolean (.int (Int32.ofInt 1)) = .int (Int32.ofInt 1); decide
    · rcases h1 with rfl | rfl
      · show fits .boolean (.int (Int32.ofInt 0)) = true; decide
      · show fits .boolean (.int (Int32.ofInt 1)) = true; decide
  · refine ⟨?_, ?_, _, hp, fun μ a k => by simp [q_sv, q_up]⟩
    · rcases h with ⟨n, rfl⟩ | ⟨t, rfl⟩
      · show narrow _ (va_rf (q_rf ad _)) = va_rf (q_rf ad _)
        generalize q_rf ad _ = x
        cases x <;> rfl
      · show narrow _ (va_rf (q_rf ad _)) = va_rf (q_rf ad _)
        generalize q_rf ad _ = x
        cases x <;> rfl
    · rcases h with ⟨n, rfl⟩ | ⟨t, rfl⟩
      · show fits _ (va_rf (q_rf ad _)) = _
        unfold q_rf; split <;> rfl
      · show fits _ (va_rf (q_rf ad _)) = _
        unfold q_rf; split <;> rfl
  · exact hp.elim
theorem q_pfz {sk : QK} {v : QV} {f g : Int → Prop} (hp : q_pf sk v f) (h : ∀ z, f z → g z) : q_pf sk v g := by
  unfold q_pf at hp ⊢
  split at hp
  · exact h _ hp
  · exact h _ hp
  · exact ⟨hp.1, h _ hp.2⟩
  · exact h _ hp
  · exact hp.elim
theorem q_svo {μ : QM} {a z : Int} {k j : Nat} (sk : QK) (h : j ≠ k) : q_sv (q_up μ a k z) a j sk = q_sv μ a j sk := by
  have e : q_up μ a k z a j = μ a j := by
    simp only [q_up]
    rw [if_neg]
    intro q
    exact h (by have := q.2; omega)
  unfold q_sv
  split <;> simp only [e]
theorem q_fput (F : q_Fix p s m args meth c T N D cy own cc) {fl : Nat → Nat × Nat} {is ip : List Nat} (hf : q_fok own fl is) (hg : q_fokP own fl ip) {i : Nat} (hi : i ∈ is) (hj : i ∈ ip) (hd : decode cc pc = .ok (.putfield i, 3)) {a : Int} {v : QV}
    (K : q_fd (T a) (fl i).1 (fl i).2 (fun sk => q_pf sk v (fun z => q_SW p l e R s m args below meth c A H0 T N ad D cy nL Q (pc + 3) ls st (q_up μ a (fl i).2 z)))) : q_SW p l e R s m args below meth c A H0 T N ad D cy nL Q pc ls (v :: .inr (.inr a) :: st) μ := by
  intro hn H locs la hP hD hS hl
  obtain ⟨hx, hb, hown, hts, hK, hlk, hN, hT, hTl⟩ := F
  unfold q_fd at K
  cases hTa : T a with
  | none => rw [hTa] at K; exact K.elim
  | some sh =>
    obtain ⟨hm, h0⟩ := hT a sh hTa
    rw [hTa] at K
    rcases sh with ⟨cj, ks⟩ | x
    · obtain ⟨hc, K⟩ := K
      subst hc
      obtain ⟨q, h1, h2, h3, h4⟩ := hf i hi
      obtain ⟨q', g1, g2⟩ := hg i hj
      have eq' : q' = q := Option.some.inj (g1.symm.trans h1)
      subst eq'
      cases hk : ks[(fl i).2]? with
      | none => rw [hk] at K; exact K.elim
      | some sk =>
        rw [hk] at K
        obtain ⟨hlen, hty⟩ := hTl a _ ks _ hTa h1
        obtain ⟨ty, hpt, hkt⟩ := hty _ sk hk
        obtain ⟨n1, n2, z, hz, hsv⟩ := q_kty (ad := ad) hkt K
        obtain ⟨k9, hk9, hw9⟩ := q_wsg (T := T) (ad := ad) (cy := cy) (μ := μ) hm
        rw [hTa] at hw9
        rw [List.map_cons, List.map_cons, q_refv h0]
        obtain ⟨hin, ty0, hty0, hnm⟩ := q_cls (List.mem_of_getElem? h1)
        have hkl : (fl i).2 < ks.length := by rw [hlen]; exact h2
        have hset : (q_ws T N ad cy μ).set k9 (ad a, .inr ((fl i).1, (ks.mapIdx (fun k sk => q_cv ad (q_sv μ a k sk))).set (fl i).2 (q_cv ad v))) = q_ws T N ad cy (q_up μ a (fl i).2 z) := by
          refine q_wss hN hk9 ?_ (fun b hb9 => q_upo _ hb9)
          rw [hTa]
          show Sum.inr _ = Sum.inr _
          congr 2
          refine List.ext_getElem? fun j => ?_
          by_cases hj9 : j = (fl i).2
          · subst hj9
            rw [List.getElem?_set_self (by rw [List.length_mapIdx]; exact hkl), List.getElem?_mapIdx, hk]
            show some (q_cv ad v) = some (q_cv ad (q_sv (q_up μ a (fl i).2 z) a (fl i).2 sk))
            rw [hsv]
          · rw [List.getElem?_set_ne (Ne.symm hj9), List.getElem?_mapIdx, List.getElem?_mapIdx]
            cases hb9 : ks[j]? with
            | none => rfl
            | some sk9 =>
              show some (q_cv ad (q_sv μ a j sk9)) = some (q_cv ad (q_sv (q_up μ a (fl i).2 z) a j sk9))
              rw [q_svo sk9 hj9]
        refine va_put (ci := (fl i).1) hx hb hts hin ty0 hty0 hnm hown hK hP hD hS k9 hw9 h1 (fl i).2 h2 (hts _ h4) (fun _ h9 => h9) g2 hpt n1 n2 (by rw [List.length_mapIdx]; exact hkl) hd (fun H1 locs1 hP1 hD1 hS1 => ?_)
        rw [hset] at hP1 hD1
        exact hz hn H1 locs1 la hP1 hD1 hS1 hl
    · exact K.elim
theorem q_cell (F : q_Fix p s m args meth c T N D cy own cc) {a : Int} {sh : QS} (hTa : T a = some sh) : 0 ≤ a ∧ ∃ k : Nat, N[k]? = some a ∧ ∀ μ : QM, (q_ws T N ad cy μ)[k]? = some (ad a, q_ent ad cy μ a (some sh)) := by
  obtain ⟨hx, hb, hown, hts, hK, hlk, hN, hT, hTl⟩ := F
  obtain ⟨hm, h0⟩ := hT a sh hTa
  obtain ⟨k, hk⟩ := List.getElem?_of_mem hm
  exact ⟨h0, k, hk, fun μ => by unfold q_ws; rw [List.getElem?_map, hk]; show some (ad a, q_ent ad cy μ a (T a)) = _; rw [hTa]⟩
theorem q_alen (F : q_Fix p s m args meth c T N D cy own cc) (hd : decode cc pc = .ok (.arraylength, 1)) {a : Int}
    (K : q_al (T a) (fun n => q_SW p l e R s m args below meth c A H0 T N ad D cy nL Q (pc + 1) ls (.inl n :: st) μ)) : q_SW p l e R s m args below meth c A H0 T N ad D cy nL Q pc ls (.inr (.inr a) :: st) μ := by
  intro hn H locs la hP hD hS hl
  unfold q_al at K
  cases hTa : T a with
  | none => rw [hTa] at K; exact K.elim
  | some sh =>
    rw [hTa] at K
    rcases sh with x | ⟨t, n⟩
    · exact K.elim
    · obtain ⟨h0, k, -, hk⟩ := q_cell (ad := ad) F hTa
      obtain ⟨hx, hb, hown, hts, hK, hlk, hN, hT, hTl⟩ := F
      rw [List.map_cons, q_refv h0]
      obtain ⟨h5, K⟩ := K
      have K := K hn H locs la hP hD hS hl
      obtain ⟨t0, ty, ht⟩ : ∃ (t0 : Nat) (ty : FieldType), (q_tys cy)[t0]? = some (cy (q_akd t), ty) := by
        have : q_akd t = 0 ∨ q_akd t = 1 ∨ q_akd t = 2 ∨ q_akd t = 3 ∨ q_akd t = 4 ∨ q_akd t = 5 := by omega
        rcases this with h | h | h | h | h | h <;> rw [h]
        · exact ⟨0, _, rfl⟩
        · exact ⟨1, _, rfl⟩
        · exact ⟨2, _, rfl⟩
        · exact ⟨3, _, rfl⟩
        · exact ⟨4, _, rfl⟩
        · exact ⟨5, _, rfl⟩
      exact va_alen hx hb hK hP k t0 (hk μ) ht (Int32.ofInt_eq_ofNat).symm hd K
theorem q_aload (F : q_Fix p s m args meth c T N D cy own cc) {t : Nat} (hd : (t = 0 ∧ decode cc pc = .ok (.iaload, 1)) ∨ (t = 2 ∧ decode cc pc = .ok (.baload, 1)) ∨ (t = 3 ∧ decode cc pc = .ok (.caload, 1))) {a i : Int}
    (K : q_ar (T a) t i (q_SW p l e R s m args below meth c A H0 T N ad D cy nL Q (pc + 1) ls (.inl (μ a i) :: st) μ)) : q_SW p l e R s m args below meth c A H0 T N ad D cy nL Q pc ls (.inl i :: .inr (.inr a) :: st) μ := by
  intro hn H locs la hP hD hS hl
  unfold q_ar at K
  split at K
  · rename_i u n hTa
    obtain ⟨rfl, h1, h2, h3, K⟩ := K
    obtain ⟨h0, k, -, hk⟩ := q_cell (ad := ad) F hTa
    obtain ⟨hx, hb, hown, hts, hK, hlk, hN, hT, hTl⟩ := F
    have K := K hn H locs la hP hD hS hl
    have hin := q_in h1 h2 h3
    rw [List.map_cons, List.map_cons, q_refv h0]
    have ei : ((Int32.ofInt i).toNatClampNeg : Int) = i := by rw [q_cl h2 (by omega)]; exact q_nat h2
    rcases hd with ⟨rfl, hd⟩ | ⟨rfl, hd⟩ | ⟨rfl, hd⟩
    · refine va_iald (f := fun j => Int32.ofInt (μ a j)) hx hb hK hP k 0 (hk μ) rfl hin hd ?_
      show W _ _ _ _ _ _ _ _ _ _ _ _ _ _ _ (F0 _ _ _ (.int (Int32.ofInt (μ a ((Int32.ofInt i).toNatClampNeg : Int))) :: _))
      rw [ei]
      exact K
    · refine va_zald (f := fun j => Int32.ofInt (μ a j)) hx hb hK hP k 2 (hk μ) rfl hin hd ?_
      show W _ _ _ _ _ _ _ _ _ _ _ _ _ _ _ (F0 _ _ _ (.int (Int32.ofInt (μ a ((Int32.ofInt i).toNatClampNeg : Int))) :: _))
      rw [ei]
      exact K
    · refine va_cald (f := fun j => Int32.ofInt (μ a j)) hx hb hK hP k 3 (hk μ) rfl hin hd ?_
      show W _ _ _ _ _ _ _ _ _ _ _ _ _ _ _ (F0 _ _ _ (.int (Int32.ofInt (μ a ((Int32.ofInt i).toNatClampNeg : Int))) :: _))
      rw [ei]
      exact K
  · exact K.elim
theorem q_aloadL (F : q_Fix p s m args meth c T N D cy own cc) (hd : decode cc pc = .ok (.laload, 1)) {a i : Int}
    (K : q_ar (T a) 1 i (q_SW p l e R s m args below meth c A H0 T N ad D cy nL Q (pc + 1) ls (.inr (.inl (μ a i)) :: st) μ)) : q_SW p l e R s m args below meth c A H0 T N ad D cy nL Q pc ls (.inl i :: .inr (.inr a) :: st) μ := by
  intro hn H locs la hP hD hS hl
  unfold q_ar at K
  split at K
  · rename_i u n hTa
    obtain ⟨rfl, h1, h2, h3, K⟩ := K
    obtain ⟨h0, k, -, hk⟩ := q_cell (ad := ad) F hTa
    obtain ⟨hx, hb, hown, hts, hK, hlk, hN, hT, hTl⟩ := F
    have K := K hn H locs la hP hD hS hl
    have hin := q_in h1 h2 h3
    rw [List.map_cons, List.map_cons, q_refv h0]
    have ei : ((Int32.ofInt i).toNatClampNeg : Int) = i := by rw [q_cl h2 (by omega)]; exact q_nat h2
    refine va_lald (f := fun j => Int64.ofInt (μ a j)) hx hb hK hP k 1 (hk μ) rfl hin hd ?_
    show W _ _ _ _ _ _ _ _ _ _ _ _ _ _ _ (F0 _ _ _ (.long (Int64.ofInt (μ a ((Int32.ofInt i).toNatClampNeg : Int))) :: _))
    rw [ei]
    exact K
  · exact K.elim
theorem q_aloadA (F : q_Fix p s m args meth c T N D cy own cc) (hd : decode cc pc = .ok (.aaload, 1)) {a i : Int}
    (K : q_aa (T a) i (fun b => 0 ≤ b ∧ q_SW p l e R s m args below meth c A H0 T N ad D cy nL Q (pc + 1) ls (.inr (.inr b) :: st) μ)) : q_SW p l e R s m args below meth c A H0 T N ad D cy nL Q pc ls (.inl i :: .inr (.inr a) :: st) μ := by
  intro hn H locs la hP hD hS hl
  unfold q_aa at K
  split at K
  · rename_i t b n hTa
    obtain ⟨ht, h1, h2, h3, hb0, K⟩ := K
    obtain ⟨h0, k, -, hk⟩ := q_cell (ad := ad) F hTa
    obtain ⟨hx, hb, hown, hts, hK, hlk, hN, hT, hTl⟩ := F
    have K := K hn H locs la hP hD hS hl
    have hin := q_in h1 h2 h3
    rw [List.map_cons, List.map_cons, q_refv h0]
    have ei : ((Int32.ofInt i).toNatClampNeg : Int) = i := by rw [q_cl h2 (by omega)]; exact q_nat h2
    have hlt : (Int32.ofInt i).toNatClampNeg < n := Nat.not_le.mp fun q => hin (Or.inr q)
    have hv : (arrV (cy t) n (fun j => va_rf (q_rf ad (b + (j : Int))))).slots[(Int32.ofInt i).toNatClampNeg]? = some (q_cv ad (.inr (.inr (b + i)))) := by
      rw [arrV_read _ _ hlt, ei]
      rfl
    have hc : H[ad a]? = some (arrV (cy t) n (fun j => va_rf (q_rf ad (b + (j : Int))))) := hP k _ (hk μ)
    rcases ht with rfl | rfl
    · exact W.aald (ty := .object RX4) hx hb hc ((hK.2 4 _ rfl).1 n _) rfl (fun q => by cases q) (by rw [arrV_size]; exact hin) hv rfl rfl hd K
    · exact W.aald (ty := .array .int) hx hb hc ((hK.2 5 _ rfl).1 n _) rfl (fun q => by cases q) (by rw [arrV_size]; exact hin) hv rfl rfl hd K
  · exact K.elim
theorem q_upI {i : Int} {x : Int32} {v : Int} (μ : QM) (a : Int) (hi : 0 ≤ i) (hx : x = Int32.ofInt v) : upd (fun (j : Nat) => Int32.ofInt (μ a j)) i.toNat x = fun (j : Nat) => Int32.ofInt (q_up μ a i v a (j : Int)) := by
  funext j
  by_cases h : j = i.toNat
  · subst h
    simp [upd, q_up, hx, q_nat hi]
  · have h2 : ¬ (j : Int) = i := fun q => h (by omega)
    simp [upd, q_up, h, h2]
theorem q_nz {v : Int} (h : v = 0 ∨ v = 1) : vp_nar .boolean (Int32.ofInt v) = Int32.ofInt v := by
  rcases h with rfl | rfl <;> decide
theorem q_nc {v : Int} (h0 : 0 ≤ v) (h1 : v < 65536) : vp_nar .char (Int32.ofInt v) = Int32.ofInt v := by
  rw [vp_nar_char, ← lg_i2c_nf]
  exact q_i2c h0 h1
theorem q_ast (F : q_Fix p s m args meth c T N D cy own cc) {t : Nat} {v : Int} (hd : (t = 0 ∧ decode cc pc = .ok (.iastore, 1)) ∨ ((v = 0 ∨ v = 1) ∧ t = 2 ∧ decode cc pc = .ok (.bastore, 1)) ∨ ((0 ≤ v ∧ v < 65536) ∧ t = 3 ∧ decode cc pc = .ok (.castore, 1))) {a i : Int}
    (K : q_ar (T a) t i (q_SW p l e R s m args below meth c A H0 T N ad D cy nL Q (pc + 1) ls st (q_up μ a i v))) : q_SW p l e R s m args below meth c A H0 T N ad D cy nL Q pc ls (.inl v :: .inl i :: .inr (.inr a) :: st) μ := by
  intro hn H locs la hP hD hS hl
  unfold q_ar at K
  split at K
  · rename_i u n hTa
    obtain ⟨rfl, h1, h2, h3, K⟩ := K
    obtain ⟨h0, k, hk9, hk⟩ := q_cell (ad := ad) F hTa
    obtain ⟨hx, hb, hown, hts, hK, hlk, hN, hT, hTl⟩ := F
    have K := fun H1 locs1 hP1 hD1 hS1 => K hn H1 locs1 la hP1 hD1 hS1 hl
    have hin := q_in h1 h2 h3
    rw [List.map_cons, List.map_cons, List.map_cons, q_refv h0]
    have ei : (Int32.ofInt i).toNatClampNeg = i.toNat := q_cl h2 (by omega)
    rcases hd with ⟨rfl, hd⟩ | ⟨hv, rfl, hd⟩ | ⟨hv, rfl, hd⟩
    · refine va_iast (f := fun j => Int32.ofInt (μ a j)) hx hb hK hP hD hS k 0 (hk μ) rfl hin hd (fun H1 locs1 hP1 hD1 hS1 => ?_)
      have hset := q_wss (T := T) (ad := ad) (cy := cy) (μ := μ) (μ' := q_up μ a i v) (e := .inl (cy 0, n, .inl (upd (fun j => Int32.ofInt (μ a j)) (Int32.ofInt i).toNatClampNeg (Int32.ofInt v)))) hN hk9 (by rw [hTa, ei, q_upI μ a h2 rfl]; rfl) (fun b hb9 => q_upo _ hb9)
      exact K H1 locs1 (by rw [← hset]; exact hP1) (by rw [← hset]; exact hD1) hS1
    · refine va_zast (f := fun j => Int32.ofInt (μ a j)) hx hb hK hP hD hS k 2 (hk μ) rfl hin hd (fun H1 locs1 hP1 hD1 hS1 => ?_)
      have hset := q_wss (T := T) (ad := ad) (cy := cy) (μ := μ) (μ' := q_up μ a i v) (e := .inl (cy 2, n, .inl (upd (fun j => Int32.ofInt (μ a j)) (Int32.ofInt i).toNatClampNeg (vp_nar .boolean (Int32.ofInt v))))) hN hk9 (by rw [hTa, ei, q_upI μ a h2 (q_nz hv)]; rfl) (fun b hb9 => q_upo _ hb9)
      exact K H1 locs1 (by rw [← hset]; exact hP1) (by rw [← hset]; exact hD1) hS1
    · refine va_cast (f := fun j => Int32.ofInt (μ a j)) hx hb hK hP hD hS k 3 (hk μ) rfl hin hd (fun H1 locs1 hP1 hD1 hS1 => ?_)
      have hset := q_wss (T := T) (ad := ad) (cy := cy) (μ := μ) (μ' := q_up μ a i v) (e := .inl (cy 3, n, .inl (upd (fun j => Int32.ofInt (μ a j)) (Int32.ofInt i).toNatClampNeg (vp_nar .char (Int32.ofInt v))))) hN hk9 (by rw [hTa, ei, q_upI μ a h2 (q_nc hv.1 hv.2)]; rfl) (fun b hb9 => q_upo _ hb9)
      exact K H1 locs1 (by rw [← hset]; exact hP1) (by rw [← hset]; exact hD1) hS1
  · exact K.elim
theorem q_upJ {i : Int} {v : Int} (μ : QM) (a : Int) (hi : 0 ≤ i) : vp_updL (fun (j : Nat) => Int64.ofInt (μ a j)) i.toNat (Int64.ofInt v) = fun (j : Nat) => Int64.ofInt (q_up μ a i v a (j : Int)) := by
  funext j
  by_cases h : j = i.toNat
  · subst h
    simp [vp_updL, q_up, q_nat hi]
  · have h2 : ¬ (j : Int) = i := fun q => h (by omega)
    simp [vp_updL, q_up, h, h2]
theorem q_astL (F : q_Fix p s m args meth c T N D cy own cc) {v : Int} (hd : decode cc pc = .ok (.lastore, 1)) {a i : Int}
    (K : q_ar (T a) 1 i (q_SW p l e R s m args below meth c A H0 T N ad D cy nL Q (pc + 1) ls st (q_up μ a i v))) : q_SW p l e R s m args below meth c A H0 T N ad D cy nL Q pc ls (.inr (.inl v) :: .inl i :: .inr (.inr a) :: st) μ := by
  intro hn H locs la hP hD hS hl
  unfold q_ar at K
  split at K
  · rename_i u n hTa
    obtain ⟨rfl, h1, h2, h3, K⟩ := K
    obtain ⟨h0, k, hk9, hk⟩ := q_cell (ad := ad) F hTa
    obtain ⟨hx, hb, hown, hts, hK, hlk, hN, hT, hTl⟩ := F
    have K := fun H1 locs1 hP1 hD1 hS1 => K hn H1 locs1 la hP1 hD1 hS1 hl
    have hin := q_in h1 h2 h3
    rw [List.map_cons, List.map_cons, List.map_cons, q_refv h0]
    have ei : (Int32.ofInt i).toNatClampNeg = i.toNat := q_cl h2 (by omega)
    refine va_last (f := fun j => Int64.ofInt (μ a j)) hx hb hK hP hD hS k 1 (hk μ) rfl hin hd (fun H1 locs1 hP1 hD1 hS1 => ?_)
    have hset := q_wss (T := T) (ad := ad) (cy := cy) (μ := μ) (μ' := q_up μ a i v) (e := .inl (cy 1, n, .inr (.inl (vp_updL (fun j => Int64.ofInt (μ a j)) (Int32.ofInt i).toNatClampNeg (Int64.ofInt v))))) hN hk9 (by rw [hTa, ei, q_upJ μ a h2]; rfl) (fun b hb9 => q_upo _ hb9)
    exact K H1 locs1 (by rw [← hset]; exact hP1) (by rw [← hset]; exact hD1) hS1
  · exact K.elim
theorem q_swS {a : Int} {g : Nat → Prop} : ∀ (L : List (Int × Nat)) (x : Int) (d : Nat), q_sw a g (L ++ [(x, d)]) → (∃ (i : Nat) (t : Nat), L[i]? = some (a, t) ∧ (∀ j q, j < i → L[j]? = some q → q.1 ≠ a) ∧ g t) ∨ ((∀ q ∈ L, q.1 ≠ a) ∧ g d)
  | [], x, d, h => Or.inr ⟨fun q hq => absurd hq List.not_mem_nil, h⟩
  | (v, t) :: L, x, d, h => by
    have h1 : (a = v → g t) ∧ (¬ a = v → q_sw a g (L ++ [(x, d)])) := by
      cases L with
      | nil => exact h
      | cons y L => exact h
    by_cases hv : a = v
    · subst hv
      exact Or.inl ⟨0, t, rfl, fun j q hj => by omega, h1.1 rfl⟩
    · rcases q_swS L x d (h1.2 hv) with ⟨i, t2, e1, e2, e3⟩ | ⟨e1, e2⟩
      · refine Or.inl ⟨i + 1, t2, e1, fun j q hj hq => ?_, e3⟩
        cases j with
        | zero => cases hq; exact fun q => hv q.symm
        | succ j => exact e2 j q (by omega) hq
      · refine Or.inr ⟨fun q hq => ?_, e2⟩
        rcases List.mem_cons.mp hq with rfl | hq
        · exact fun q => hv q.symm
        · exact e1 q hq
end QS5
end
section
/-- what a contract says at the end -/
def q_Qc (T : Int → Option QS) (N : List Int) (ad : Int → Nat) (D : va_G) (cy : Nat → ClassId) (A : Nat → Prop) (Rt : Option QV → QM → Prop) : Array Value → State → Outcome → State → Prop := fun _ st oc t => (∃ (o : Option QV) (μ : QM), oc = .returned (o.map (q_cv ad)) ∧ Rt o μ ∧ va_P D vwCl (q_ws T N ad cy μ) t.heap) ∧ va_F A st t
def q_rto (rk : Nat) (r : Option FieldType) : Prop := match rk with
  | 0 => r = some .int
  | 1 => r = some .boolean
  | 2 => r = some .char
  | 3 => ∃ n, r = some (.object n)
  | _ => r = none
def q_ldk (own : String) (ld : Nat → QV) (lc : List Nat) : Prop := ∀ i ∈ lc, match ld i with
  | .inl z => Cond.constant own i (Int32.ofInt z) ∈ q_tb
  | .inr (.inl z) => Cond.constantLong own i (Int64.ofInt z) ∈ q_tb
  | _ => False
theorem q_tabS {pc : Nat} {tg : List (Int × Nat)} {d lo hi : Int} {offs : Array Int} {a : Int} {g : Nat → Prop} (ht : tg.map (fun q => (q.1, (q.2 : Int))) = ((List.range offs.size).map (fun (i : Nat) => (lo + (i : Int), (pc : Int) + offs.getD i 0))) ++ [((0 : Int), (pc : Int) + d)] ∧ (offs.size : Int) = hi - lo + 1) (h : q_sw a g tg) :
    (∃ (t : Nat) (off : Int), ¬ a < lo ∧ ¬ hi < a ∧ offs[(a - lo).toNat]? = some off ∧ (pc : Int) + off = (t : Int) ∧ g t) ∨ (∃ t : Nat, (a < lo ∨ hi < a) ∧ (pc : Int) + d = (t : Int) ∧ g t) := by
  obtain ⟨ht, hsz⟩ := ht
  obtain ⟨L, l2, rfl, h1, h2⟩ := List.map_eq_append_iff.mp ht
  cases l2 with
  | nil => cases h2
  | cons q l3 =>
    cases l3 with
    | cons q2 l4 => exact absurd (congrArg List.length h2) (by simp)
    | nil =>
      obtain ⟨x, dd⟩ := q
      have h3 : ((dd : Nat) : Int) = (pc : Int) + d := congrArg Prod.snd (List.cons.inj h2).1
      rcases q_swS L x dd h with ⟨i, t, e1, -, e3⟩ | ⟨e1, e2⟩
      · have h4 : (L.map (fun q => (q.1, (q.2 : Int))))[i]? = some (a, (t : Int)) := by rw [List.getElem?_map, e1]; rfl
        rw [h1, List.getElem?_map] at h4
        cases hi9 : (List.range offs.size)[i]? with
        | none => rw [hi9] at h4; cases h4
        | some j =>
          rw [hi9] at h4
          obtain ⟨hj, ej⟩ := List.getElem?_eq_some_iff.mp hi9
          rw [List.getElem_range] at ej
          subst ej
          rw [List.length_range] at hj
          have h5 : (lo + (i : Int), (pc : Int) + offs.getD i 0) = (a, (t : Int)) := Option.some.inj h4
          have h6 : lo + (i : Int) = a := congrArg Prod.fst h5
          have h7 : (pc : Int) + offs.getD i 0 = (t : Int) := congrArg Prod.snd h5
          refine Or.inl ⟨t, offs.getD i 0, by omega, by omega, ?_, h7, e3⟩
          have h8 : (a - lo).toNat = i := by omega
          rw [h8]
          simp [Array.getD, hj]
      · refine Or.inr ⟨dd, ?_, h3.symm, e2⟩
        by_cases c1 : a < lo
        · exact Or.inl c1
        · refine Or.inr (Int.not_le.mp fun c2 => ?_)
          have hj : (a - lo).toNat < offs.size := by omega
          have h4 : (L.map (fun q => (q.1, (q.2 : Int))))[(a - lo).toNat]? = some (lo + ((a - lo).toNat : Int), (pc : Int) + offs.getD (a - lo).toNat 0) := by
            rw [h1, List.getElem?_map, List.getElem?_range hj]
            rfl
          rw [List.getElem?_map] at h4
          cases hq : L[(a - lo).toNat]? with
          | none => rw [hq] at h4; cases h4
          | some q =>
            rw [hq] at h4
            have h5 : q.1 = lo + ((a - lo).toNat : Int) := congrArg Prod.fst (Option.some.inj h4)
            exact e1 q (List.mem_of_getElem? hq) (by omega)
theorem q_lkS {pc : Nat} {d : Int} {a : Int} {g : Nat → Prop} : ∀ (ps : List (Int × Int)) (tg : List (Int × Nat)), tg.map (fun q => (q.1, (q.2 : Int))) = ps.map (fun q => (q.1, (pc : Int) + q.2)) ++ [((0 : Int), (pc : Int) + d)] → q_sw a g tg → ∃ (t : Nat) (off : Int), Op.lookupswitch.offset ps d a = off ∧ (pc : Int) + off = (t : Int) ∧ g t
  | [], tg, ht, h => by
    cases tg with
    | nil => cases ht
    | cons q l3 =>
      cases l3 with
      | cons q2 l4 => exact absurd (congrArg List.length ht) (by simp)
      | nil =>
        obtain ⟨x, dd⟩ := q
        have h3 : ((dd : Nat) : Int) = (pc : Int) + d := congrArg Prod.snd (List.cons.inj ht).1
        exact ⟨dd, d, rfl, h3.symm, h⟩
  | (v, o) :: ps, tg, ht, h => by
    cases tg with
    | nil => cases ht
    | cons q l3 =>
      obtain ⟨x, dd⟩ := q
      have h1 := List.cons.inj ht
      have h2 : x = v := congrArg Prod.fst h1.1
      have h3 : ((dd : Nat) : Int) = (pc : Int) + o := congrArg Prod.snd h1.1
      subst h2
      have h4 : (a = x → g dd) ∧ (¬ a = x → q_sw a g l3) := by
        cases l3 with
        | nil => exact absurd (congrArg List.length h1.2) (by simp)
        | cons y L => exact h
      by_cases c : a = x
      · refine ⟨dd, o, ?_, h3.symm, h4.1 c⟩
        rw [Op.lookupswitch.offset_cons, if_pos c.symm]
      · obtain ⟨t, off, e1, e2, e3⟩ := q_lkS ps l3 h1.2 (h4.2 c)
        refine ⟨t, off, ?_, e2, e3⟩
        rw [Op.lookupswitch.offset_cons, if_neg (fun q => c q.symm)]
        exact e1
section QS6
variable {p : Program} {l : Launch} {e : Env} {R : Room} {s : State} {m : MethodId} {args : Array Value} {below : List Frame} {meth : Method} {c : Code} {A : Nat → Prop} {T : Int → Option QS} {N : List Int} {ad : Int → Nat} {D : va_G} {cy : Nat → ClassId} {nL : Nat} {own : String} {cc : ByteArray}
variable {fl : Nat → Nat × Nat} {ld : Nat → QV} {Γ : Nat → Nat × QP} {rk : Nat} {Rt : Option QV → QM → Prop} {u : QU}
set_option maxHeartbeats 4000000 in
theorem q_stpS (F : q_Fix p s m args meth c T N D cy own cc) (hf : q_fok own fl u.1) (hg : q_fokP own fl u.2.1) (hld : q_ldk own ld u.2.2.1) (hr : q_rto rk meth.sig.returnType)
    (hstr : ∀ i ∈ u.2.2.2.1, ∀ (pc : Nat) (ls : QL) (st : List QV) (μ : QM), decode cc pc = .ok (.ldc i, 2) → q_SW p l e R s m args below meth c A s.heap T N ad D cy nL (MQ below (q_Qc T N ad D cy A Rt) args s 0 0 A) (pc + 2) ls (ld i :: st) μ → q_SW p l e R s m args below meth c A s.heap T N ad D cy nL (MQ below (q_Qc T N ad D cy A Rt) args s 0 0 A) pc ls st μ)
    (hcV : ∀ i ∈ u.2.2.2.2.1, ∀ (pc : Nat) (ls : QL) (st : List QV) (μ : QM) (K : Option QV → QM → Prop), decode cc pc = .ok (.invokevirtual i, 3) → (Γ i).1 ≤ st.length → q_cats (st.drop (Γ i).1) ≤ 8 → (Γ i).2 (st.take (Γ i).1) μ K → (∀ o μ', K o μ' → q_SW p l e R s m args below meth c A s.heap T N ad D cy nL (MQ below (q_Qc T N ad D cy A Rt) args s 0 0 A) (pc + 3) ls (o.toList ++ st.drop (Γ i).1) μ') → q_SW p l e R s m args below meth c A s.heap T N ad D cy nL (MQ below (q_Qc T N ad D cy A Rt) args s 0 0 A) pc ls st μ)
    (hcS : ∀ i ∈ u.2.2.2.2.2.1, ∀ (pc : Nat) (ls : QL) (st : List QV) (μ : QM) (K : Option QV → QM → Prop), decode cc pc = .ok (.invokestatic i, 3) → (Γ i).1 ≤ st.length → q_cats (st.drop (Γ i).1) ≤ 8 → (Γ i).2 (st.take (Γ i).1) μ K → (∀ o μ', K o μ' → q_SW p l e R s m args below meth c A s.heap T N ad D cy nL (MQ below (q_Qc T N ad D cy A Rt) args s 0 0 A) (pc + 3) ls (o.toList ++ st.drop (Γ i).1) μ') → q_SW p l e R s m args below meth c A s.heap T N ad D cy nL (MQ below (q_Qc T N ad D cy A Rt) args s 0 0 A) pc ls st μ)
    (hcI : ∀ i ∈ u.2.2.2.2.2.2, ∀ (pc : Nat) (ls : QL) (st : List QV) (μ : QM) (K : Option QV → QM → Prop), decode cc pc = .ok (.invokespecial i, 3) → (Γ i).1 ≤ st.length → q_cats (st.drop (Γ i).1) ≤ 8 → (Γ i).2 (st.take (Γ i).1) μ K → (∀ o μ', K o μ' → q_SW p l e R s m args below meth c A s.heap T N ad D cy nL (MQ below (q_Qc T N ad D cy A Rt) args s 0 0 A) (pc + 3) ls (o.toList ++ st.drop (Γ i).1) μ') → q_SW p l e R s m args below meth c A s.heap T N ad D cy nL (MQ below (q_Qc T N ad D cy A Rt) args s 0 0 A) pc ls st μ)
    (go : List QE → Nat → QL → List QV → QM → Prop) (hgo : ∀ (b : List QE) (pc : Nat) (ls : QL) (st : List QV) (μ : QM), q_ok cc nL u pc b = true → go b pc ls st μ → q_SW p l e R s m args below meth c A s.heap T N ad D cy nL (MQ below (q_Qc T N ad D cy A Rt) args s 0 0 A) pc ls st μ)
    (pc : Nat) (ins : Instr) (nx : Nat) (tg : List (Int × Nat)) (r : List QE) (ls : QL) (st : List QV) (μ : QM) (hok : q_ok cc nL u pc ((ins, nx, tg) :: r) = true) (h : q_stp fl ld Γ T rk Rt go ins nx tg r ls st μ) :
    q_SW p l e R s m args below meth c A s.heap T N ad D cy nL (MQ below (q_Qc T N ad D cy A Rt) args s 0 0 A) pc ls st μ := by
  have hok' : q_dec cc pc nx ins = true ∧ q_sto nL ins = true ∧ q_tgt pc tg ins = true ∧ q_use u ins = true ∧ q_ok cc nL u nx r = true := by
    simp only [q_ok, Bool.and_eq_true] at hok
    exact ⟨hok.1.1.1.1, hok.1.1.1.2, hok.1.1.2, hok.1.2, hok.2⟩
  obtain ⟨hdec, hsto, htgt, huse, hr9⟩ := hok'
  clear hok
  have hx := F.1
  have hb := F.2.1
  have hown := F.2.2.1
  have hts := F.2.2.2.1
  have hlocks := F.2.2.2.2.2.1
  unfold q_stp at h
  split at h
  · obtain ⟨hd, rfl⟩ : decode cc pc = .ok (.iconst _, 1) ∧ nx = pc + 1 := of_decide_eq_true hdec
    intro hn H locs la hP hD hS hl
    exact lv_iconst hx hb hd rfl (hgo _ _ _ _ _ hr9 h hn H locs la hP hD hS hl)
  · obtain ⟨hd, rfl⟩ : decode cc pc = .ok (.bipush _, 2) ∧ nx = pc + 2 := of_decide_eq_true hdec
    intro hn H locs la hP hD hS hl
    exact lv_bipush hx hb hd (q_bip h.1) (hgo _ _ _ _ _ hr9 h.2 hn H locs la hP hD hS hl)
  · obtain ⟨hd, rfl⟩ : decode cc pc = .ok (.sipush _, 3) ∧ nx = pc + 3 := of_decide_eq_true hdec
    intro hn H locs la hP hD hS hl
    exact lv_sipush hx hb hd (q_sip h.1) (hgo _ _ _ _ _ hr9 h.2 hn H locs la hP hD hS hl)
  · obtain ⟨hd, rfl⟩ : decode cc pc = .ok (.lconst _, 1) ∧ nx = pc + 1 := of_decide_eq_true hdec
    intro hn H locs la hP hD hS hl
    exact lv_lconst hx hb hd (Int64.ofInt_eq_ofNat).symm (hgo _ _ _ _ _ hr9 h hn H locs la hP hD hS hl)
  · obtain ⟨hd, rfl⟩ : decode cc pc = .ok (.ldc _, 2) ∧ nx = pc + 2 := of_decide_eq_true hdec
    have hu := of_decide_eq_true huse
    rcases hu with hu | hu
    · have h2 := hld _ hu
      intro hn H locs la hP hD hS hl
      have K := hgo _ _ _ _ _ hr9 h.2 hn H locs la hP hD hS hl
      have h1 := h.1
      rcases hv : ld _ with z | z | z
      · rw [hv] at h2 K
        exact lv_ldc hx hb hown (hts _ h2) hd K
      · rw [hv] at h1
        exact absurd h1 (by simp [q_ct])
      · rw [hv] at h2
        exact h2.elim
    · exact hstr _ hu _ _ _ _ hd (hgo _ _ _ _ _ hr9 h.2)
  · obtain ⟨hd, rfl⟩ : decode cc pc = .ok (.ldc_w _, 3) ∧ nx = pc + 3 := of_decide_eq_true hdec
    have h2 := hld _ (of_decide_eq_true huse)
    unfold q_int at h
    split at h
    · rename_i z hz
      rw [Option.some.inj hz] at h2
      intro hn H locs la hP hD hS hl
      exact lv_ldcw hx hb hown (hts _ h2) hd (hgo _ _ _ _ _ hr9 h hn H locs la hP hD hS hl)
    · exact h.elim
  · obtain ⟨hd, rfl⟩ : decode cc pc = .ok (.ldc2_w _, 3) ∧ nx = pc + 3 := of_decide_eq_true hdec
    have h2 := hld _ (of_decide_eq_true huse)
    unfold q_lng at h
    split at h
    · rename_i z hz
      rw [Option.some.inj hz] at h2
      intro hn H locs la hP hD hS hl
      exact lv_ldc2 hx hb hown (hts _ h2) hd (hgo _ _ _ _ _ hr9 h hn H locs la hP hD hS hl)
    · exact h.elim
  · obtain ⟨hd, rfl⟩ : decode cc pc = .ok (.iload_n _, 1) ∧ nx = pc + 1 := of_decide_eq_true hdec
    unfold q_int at h
    split at h
    · rename_i z hz
      exact q_loadI F (Or.inl ⟨_, rfl, hd, rfl⟩) hz (hgo _ _ _ _ _ hr9 h)
    · exact h.elim
  · obtain ⟨hd, rfl⟩ : decode cc pc = .ok (.iload _, 2) ∧ nx = pc + 2 := of_decide_eq_true hdec
    unfold q_int at h
    split at h
    · rename_i z hz
      exact q_loadI F (Or.inr ⟨hd, rfl⟩) hz (hgo _ _ _ _ _ hr9 h)
    · exact h.elim
  · obtain ⟨hd, rfl⟩ : decode cc pc = .ok (.lload_n _, 1) ∧ nx = pc + 1 := of_decide_eq_true hdec
    unfold q_lng at h
    split at h
    · rename_i z hz
      exact q_loadL F (Or.inl ⟨_, rfl, hd, rfl⟩) hz (hgo _ _ _ _ _ hr9 h)
    · exact h.elim
  · obtain ⟨hd, rfl⟩ : decode cc pc = .ok (.lload _, 2) ∧ nx = pc + 2 := of_decide_eq_true hdec
    unfold q_lng at h
    split at h
    · rename_i z hz
      exact q_loadL F (Or.inr ⟨hd, rfl⟩) hz (hgo _ _ _ _ _ hr9 h)
    · exact h.elim
  · obtain ⟨hd, rfl⟩ : decode cc pc = .ok (.aload_n _, 1) ∧ nx = pc + 1 := of_decide_eq_true hdec
    unfold q_ref at h
    split at h
    · rename_i z hz
      exact q_loadA F (Or.inl ⟨_, rfl, hd, rfl⟩) h.1 hz (hgo _ _ _ _ _ hr9 h.2)
    · exact h.elim
  · obtain ⟨hd, rfl⟩ : decode cc pc = .ok (.aload _, 2) ∧ nx = pc + 2 := of_decide_eq_true hdec
    unfold q_ref at h
    split at h
    · rename_i z hz
      exact q_loadA F (Or.inr ⟨hd, rfl⟩) h.1 hz (hgo _ _ _ _ _ hr9 h.2)
    · exact h.elim
  · obtain ⟨hd, rfl⟩ : decode cc pc = .ok (.istore_n _, 1) ∧ nx = pc + 1 := of_decide_eq_true hdec
    exact q_storeI F (of_decide_eq_true hsto) (Or.inl ⟨_, rfl, hd, rfl⟩) (hgo _ _ _ _ _ hr9 h)
  · obtain ⟨hd, rfl⟩ : decode cc pc = .ok (.istore _, 2) ∧ nx = pc + 2 := of_decide_eq_true hdec
    exact q_storeI F (of_decide_eq_true hsto) (Or.inr ⟨hd, rfl⟩) (hgo _ _ _ _ _ hr9 h)
  · obtain ⟨hd, rfl⟩ : decode cc pc = .ok (.lstore_n _, 1) ∧ nx = pc + 1 := of_decide_eq_true hdec
    exact q_storeL F (of_decide_eq_true hsto) (Or.inl ⟨_, rfl, hd, rfl⟩) (hgo _ _ _ _ _ hr9 h)
  · obtain ⟨hd, rfl⟩ : decode cc pc = .ok (.lstore _, 2) ∧ nx = pc + 2 := of_decide_eq_true hdec
    exact q_storeL F (of_decide_eq_true hsto) (Or.inr ⟨hd, rfl⟩) (hgo _ _ _ _ _ hr9 h)
  · obtain ⟨hd, rfl⟩ : decode cc pc = .ok (.astore_n _, 1) ∧ nx = pc + 1 := of_decide_eq_true hdec
    exact q_storeA F (of_decide_eq_true hsto) (Or.inl ⟨_, rfl, hd, rfl⟩) h.1 (hgo _ _ _ _ _ hr9 h.2)
  · obtain ⟨hd, rfl⟩ : decode cc pc = .ok (.astore _, 2) ∧ nx = pc + 2 := of_decide_eq_true hdec
    exact q_storeA F (of_decide_eq_true hsto) (Or.inr ⟨hd, rfl⟩) h.1 (hgo _ _ _ _ _ hr9 h.2)
  · obtain ⟨hd, rfl⟩ : decode cc pc = .ok (.iinc _ _, 3) ∧ nx = pc + 3 := of_decide_eq_true hdec
    unfold q_int at h
    split at h
    · rename_i z hz
      exact q_iinc F (of_decide_eq_true hsto) hd hz (hgo _ _ _ _ _ hr9 h)
    · exact h.elim
  · obtain ⟨hd, rfl⟩ : decode cc pc = .ok (.iadd, 1) ∧ nx = pc + 1 := of_decide_eq_true hdec
    intro hn H locs la hP hD hS hl
    have K := hgo _ _ _ _ _ hr9 h hn H locs la hP hD hS hl
    simp only [List.map_cons, q_cv, Int32.ofInt_add] at K ⊢
    exact lv_iadd hx hb hd K
  · obtain ⟨hd, rfl⟩ : decode cc pc = .ok (.isub, 1) ∧ nx = pc + 1 := of_decide_eq_true hdec
    intro hn H locs la hP hD hS hl
    have K := hgo _ _ _ _ _ hr9 h hn H locs la hP hD hS hl
    simp only [List.map_cons, q_cv, Int32.ofInt_sub] at K ⊢
    exact lv_isub hx hb hd K
  · obtain ⟨hd, rfl⟩ : decode cc pc = .ok (.imul, 1) ∧ nx = pc + 1 := of_decide_eq_true hdec
    intro hn H locs la hP hD hS hl
    have K := hgo _ _ _ _ _ hr9 h hn H locs la hP hD hS hl
    simp only [List.map_cons, q_cv, Int32.ofInt_mul] at K ⊢
    exact lv_imul hx hb hd K
  · obtain ⟨hd, rfl⟩ : decode cc pc = .ok (.ineg, 1) ∧ nx = pc + 1 := of_decide_eq_true hdec
    intro hn H locs la hP hD hS hl
    have K := hgo _ _ _ _ _ hr9 h hn H locs la hP hD hS hl
    simp only [List.map_cons, q_cv, Int32.ofInt_neg] at K ⊢
    exact lv_ineg hx hb hd K
  · obtain ⟨hd, rfl⟩ : decode cc pc = .ok (.iand, 1) ∧ nx = pc + 1 := of_decide_eq_true hdec
    intro hn H locs la hP hD hS hl
    have K := hgo _ _ _ _ _ hr9 h hn H locs la hP hD hS hl
    simp only [List.map_cons, q_cv, q_and, Int32.ofInt_toInt] at K ⊢
    exact lv_iand hx hb hd K
  · obtain ⟨hd, rfl⟩ : decode cc pc = .ok (.ior, 1) ∧ nx = pc + 1 := of_decide_eq_true hdec
    intro hn H locs la hP hD hS hl
    have K := hgo _ _ _ _ _ hr9 h hn H locs la hP hD hS hl
    simp only [List.map_cons, q_cv, q_or, Int32.ofInt_toInt] at K ⊢
    exact lv_ior hx hb hd K
  · obtain ⟨hd, rfl⟩ : decode cc pc = .ok (.ixor, 1) ∧ nx = pc + 1 := of_decide_eq_true hdec
    intro hn H locs la hP hD hS hl
    have K := hgo _ _ _ _ _ hr9 h hn H locs la hP hD hS hl
    simp only [List.map_cons, q_cv, q_xor, Int32.ofInt_toInt] at K ⊢
    exact lv_ixor hx hb hd K
  · obtain ⟨hd, rfl⟩ : decode cc pc = .ok (.ishl, 1) ∧ nx = pc + 1 := of_decide_eq_true hdec
    intro hn H locs la hP hD hS hl
    have K := hgo _ _ _ _ _ hr9 h hn H locs la hP hD hS hl
    simp only [List.map_cons, q_cv, q_shl, Int32.ofInt_toInt] at K ⊢
    exact lv_ishl hx hb hd K
  · obtain ⟨hd, rfl⟩ : decode cc pc = .ok (.ishr, 1) ∧ nx = pc + 1 := of_decide_eq_true hdec
    intro hn H locs la hP hD hS hl
    have K := hgo _ _ _ _ _ hr9 h hn H locs la hP hD hS hl
    simp only [List.map_cons, q_cv, q_shr, Int32.ofInt_toInt] at K ⊢
    exact lv_ishr hx hb hd K
  · obtain ⟨hd, rfl⟩ : decode cc pc = .ok (.iushr, 1) ∧ nx = pc + 1 := of_decide_eq_true hdec
    intro hn H locs la hP hD hS hl
    have K := hgo _ _ _ _ _ hr9 h hn H locs la hP hD hS hl
    simp only [List.map_cons, q_cv, q_ush, Int32.ofInt_toInt] at K ⊢
    exact lv_iushr hx hb hd rfl K
  · obtain ⟨hd, rfl⟩ : decode cc pc = .ok (.idiv, 1) ∧ nx = pc + 1 := of_decide_eq_true hdec
    intro hn H locs la hP hD hS hl
    have K := hgo _ _ _ _ _ hr9 h.2 hn H locs la hP hD hS hl
    simp only [List.map_cons, q_cv] at K ⊢
    rw [← q_divS h.1] at K
    exact lv_idiv hx hb hd (by rw [q_eq0 ⟨by omega, by omega⟩]; omega) K
  · obtain ⟨hd, rfl⟩ : decode cc pc = .ok (.irem, 1) ∧ nx = pc + 1 := of_decide_eq_true hdec
    intro hn H locs la hP hD hS hl
    have K := hgo _ _ _ _ _ hr9 h.2 hn H locs la hP hD hS hl
    simp only [List.map_cons, q_cv] at K ⊢
    rw [← q_remS h.1] at K
    exact lv_irem hx hb hd (by rw [q_eq0 ⟨by omega, by omega⟩]; omega) K
  · obtain ⟨hd, rfl⟩ : decode cc pc = .ok (.ladd, 1) ∧ nx = pc + 1 := of_decide_eq_true hdec
    intro hn H locs la hP hD hS hl
    have K := hgo _ _ _ _ _ hr9 h hn H locs la hP hD hS hl
    simp only [List.map_cons, q_cv, Int64.ofInt_add] at K ⊢
    exact lv_ladd hx hb hd K
  · obtain ⟨hd, rfl⟩ : decode cc pc = .ok (.lsub, 1) ∧ nx = pc + 1 := of_decide_eq_true hdec
    intro hn H locs la hP hD hS hl
    have K := hgo _ _ _ _ _ hr9 h hn H locs la hP hD hS hl
    simp only [List.map_cons, q_cv, Int64.ofInt_sub] at K ⊢
    exact lv_lsub hx hb hd K
  · obtain ⟨hd, rfl⟩ : decode cc pc = .ok (.lmul, 1) ∧ nx = pc + 1 := of_decide_eq_true hdec
    intro hn H locs la hP hD hS hl
    have K := hgo _ _ _ _ _ hr9 h hn H locs la hP hD hS hl
    simp only [List.map_cons, q_cv, Int64.ofInt_mul] at K ⊢
    exact lv_lmul hx hb hd K
  · obtain ⟨hd, rfl⟩ : decode cc pc = .ok (.lcmp, 1) ∧ nx = pc + 1 := of_decide_eq_true hdec
    intro hn H locs la hP hD hS hl
    have K := hgo _ _ _ _ _ hr9 h.2 hn H locs la hP hD hS hl
    simp only [List.map_cons, q_cv] at K ⊢
    rw [← q_cmpS h.1.1 h.1.2] at K
    exact W.lcmp hx hb hd K
  · obtain ⟨hd, rfl⟩ : decode cc pc = .ok (.i2l, 1) ∧ nx = pc + 1 := of_decide_eq_true hdec
    intro hn H locs la hP hD hS hl
    exact lv_i2l hx hb hd (q_i2l h.1) (hgo _ _ _ _ _ hr9 h.2 hn H locs la hP hD hS hl)
  · obtain ⟨hd, rfl⟩ : decode cc pc = .ok (.l2i, 1) ∧ nx = pc + 1 := of_decide_eq_true hdec
    intro hn H locs la hP hD hS hl
    exact lv_l2i hx hb hd Int64.toInt32_ofInt (hgo _ _ _ _ _ hr9 h hn H locs la hP hD hS hl)
  · obtain ⟨hd, rfl⟩ : decode cc pc = .ok (.i2c, 1) ∧ nx = pc + 1 := of_decide_eq_true hdec
    intro hn H locs la hP hD hS hl
    exact lv_i2c hx hb hd (q_i2c h.1.1 h.1.2) (hgo _ _ _ _ _ hr9 h.2 hn H locs la hP hD hS hl)
  · obtain ⟨hd, rfl⟩ : decode cc pc = .ok (.dup, 1) ∧ nx = pc + 1 := of_decide_eq_true hdec
    intro hn H locs la hP hD hS hl
    exact lv_dup hx hb hd (by rw [q_ctv]; exact h.1) (hgo _ _ _ _ _ hr9 h.2 hn H locs la hP hD hS hl)
  · obtain ⟨hd, rfl⟩ : decode cc pc = .ok (.dup2, 1) ∧ nx = pc + 1 := of_decide_eq_true hdec
    intro hn H locs la hP hD hS hl
    exact lv_dup2_11 hx hb hd (by rw [q_ctv]; exact h.1.1) (by rw [q_ctv]; exact h.1.2) (hgo _ _ _ _ _ hr9 h.2 hn H locs la hP hD hS hl)
  · obtain ⟨hd, rfl⟩ : decode cc pc = .ok (.ifCond .eq _, 3) ∧ nx = pc + 3 := of_decide_eq_true hdec
    have ht := of_decide_eq_true htgt
    obtain ⟨⟨x9, t9⟩, rfl⟩ : ∃ q, tg = [q] := by
      cases tg with
      | nil => cases ht
      | cons q t =>
        cases t with
        | nil => exact ⟨q, rfl⟩
        | cons q2 t => exact absurd (congrArg List.length ht) (by simp)
    have ht : (t9 : Int) = (pc : Int) + _ := (List.cons.inj ht).1
    intro hn H locs la hP hD hS hl
    have hiff := q_eq0 h.1
    exact lv_if_eq hx hb hd ht.symm (fun c9 => hgo [] t9 _ _ _ rfl (h.2.1 (by rw [hiff] at c9; exact c9)) hn H locs la hP hD hS hl) (fun c9 => hgo _ _ _ _ _ hr9 (h.2.2 (by rw [hiff] at c9; exact c9)) hn H locs la hP hD hS hl)
  · obtain ⟨hd, rfl⟩ : decode cc pc = .ok (.ifCond .ne _, 3) ∧ nx = pc + 3 := of_decide_eq_true hdec
    have ht := of_decide_eq_true htgt
    obtain ⟨⟨x9, t9⟩, rfl⟩ : ∃ q, tg = [q] := by
      cases tg with
      | nil => cases ht
      | cons q t =>
        cases t with
        | nil => exact ⟨q, rfl⟩
        | cons q2 t => exact absurd (congrArg List.length ht) (by simp)
    have ht : (t9 : Int) = (pc : Int) + _ := (List.cons.inj ht).1
    intro hn H locs la hP hD hS hl
    have hiff := q_eq0 h.1
    exact lv_if_ne hx hb hd ht.symm (fun c9 => hgo [] t9 _ _ _ rfl (h.2.1 (by rw [hiff] at c9; exact c9)) hn H locs la hP hD hS hl) (fun c9 => hgo _ _ _ _ _ hr9 (h.2.2 (by rw [hiff] at c9; exact c9)) hn H locs la hP hD hS hl)
  · obtain ⟨hd, rfl⟩ : decode cc pc = .ok (.ifCond .lt _, 3) ∧ nx = pc + 3 := of_decide_eq_true hdec
    have ht := of_decide_eq_true htgt
    obtain ⟨⟨x9, t9⟩, rfl⟩ : ∃ q, tg = [q] := by
      cases tg with
      | nil => cases ht
      | cons q t =>
        cases t with
        | nil => exact ⟨q, rfl⟩
        | cons q2 t => exact absurd (congrArg List.length ht) (by simp)
    have ht : (t9 : Int) = (pc : Int) + _ := (List.cons.inj ht).1
    intro hn H locs la hP hD hS hl
    have hiff := q_lt0 h.1
    exact lv_if_lt hx hb hd ht.symm (fun c9 => hgo [] t9 _ _ _ rfl (h.2.1 (by rw [hiff] at c9; exact c9)) hn H locs la hP hD hS hl) (fun c9 => hgo _ _ _ _ _ hr9 (h.2.2 (by rw [hiff] at c9; exact c9)) hn H locs la hP hD hS hl)
  · obtain ⟨hd, rfl⟩ : decode cc pc = .ok (.ifCond .ge _, 3) ∧ nx = pc + 3 := of_decide_eq_true hdec
    have ht := of_decide_eq_true htgt
    obtain ⟨⟨x9, t9⟩, rfl⟩ : ∃ q, tg = [q] := by
      cases tg with
      | nil => cases ht
      | cons q t =>
        cases t with
        | nil => exact ⟨q, rfl⟩
        | cons q2 t => exact absurd (congrArg List.length ht) (by simp)
    have ht : (t9 : Int) = (pc : Int) + _ := (List.cons.inj ht).1
    intro hn H locs la hP hD hS hl
    have hiff := q_ge0 h.1
    exact lv_if_ge hx hb hd ht.symm (fun c9 => hgo [] t9 _ _ _ rfl (h.2.1 (by rw [hiff] at c9; exact c9)) hn H locs la hP hD hS hl) (fun c9 => hgo _ _ _ _ _ hr9 (h.2.2 (by rw [hiff] at c9; exact c9)) hn H locs la hP hD hS hl)
  · obtain ⟨hd, rfl⟩ : decode cc pc = .ok (.ifCond .gt _, 3) ∧ nx = pc + 3 := of_decide_eq_true hdec
    have ht := of_decide_eq_true htgt
    obtain ⟨⟨x9, t9⟩, rfl⟩ : ∃ q, tg = [q] := by
      cases tg with
      | nil => cases ht
      | cons q t =>
        cases t with
        | nil => exact ⟨q, rfl⟩
        | cons q2 t => exact absurd (congrArg List.length ht) (by simp)
    have ht : (t9 : Int) = (pc : Int) + _ := (List.cons.inj ht).1
    intro hn H locs la hP hD hS hl
    have hiff := q_gt0 h.1
    exact lv_if_gt hx hb hd ht.symm (fun c9 => hgo [] t9 _ _ _ rfl (h.2.1 (by rw [hiff] at c9; exact c9)) hn H locs la hP hD hS hl) (fun c9 => hgo _ _ _ _ _ hr9 (h.2.2 (by rw [hiff] at c9; exact c9)) hn H locs la hP hD hS hl)
  · obtain ⟨hd, rfl⟩ : decode cc pc = .ok (.ifCond .le _, 3) ∧ nx = pc + 3 := of_decide_eq_true hdec
    have ht := of_decide_eq_true htgt
    obtain ⟨⟨x9, t9⟩, rfl⟩ : ∃ q, tg = [q] := by
      cases tg with
      | nil => cases ht
      | cons q t =>
        cases t with
        | nil => exact ⟨q, rfl⟩
        | cons q2 t => exact absurd (congrArg List.length ht) (by simp)
    have ht : (t9 : Int) = (pc : Int) + _ := (List.cons.inj ht).1
    intro hn H locs la hP hD hS hl
    have hiff := q_le0 h.1
    exact lv_if_le hx hb hd ht.symm (fun c9 => hgo [] t9 _ _ _ rfl (h.2.1 (by rw [hiff] at c9; exact c9)) hn H locs la hP hD hS hl) (fun c9 => hgo _ _ _ _ _ hr9 (h.2.2 (by rw [hiff] at c9; exact c9)) hn H locs la hP hD hS hl)
  · obtain ⟨hd, rfl⟩ : decode cc pc = .ok (.if_icmp .eq _, 3) ∧ nx = pc + 3 := of_decide_eq_true hdec
    have ht := of_decide_eq_true htgt
    obtain ⟨⟨x9, t9⟩, rfl⟩ : ∃ q, tg = [q] := by
      cases tg with
      | nil => cases ht
      | cons q t =>
        cases t with
        | nil => exact ⟨q, rfl⟩
        | cons q2 t => exact absurd (congrArg List.length ht) (by simp)
    have ht : (t9 : Int) = (pc : Int) + _ := (List.cons.inj ht).1
    intro hn H locs la hP hD hS hl
    have hiff := q_eq h.1.1 h.1.2
    exact lv_icmp_eq hx hb hd ht.symm (fun c9 => hgo [] t9 _ _ _ rfl (h.2.1 (by first | exact hiff.mp c9 | (rw [hiff] at c9; exact c9))) hn H locs la hP hD hS hl) (fun c9 => hgo _ _ _ _ _ hr9 (h.2.2 (by first | exact hiff.mp c9 | (rw [hiff] at c9; exact c9))) hn H locs la hP hD hS hl)
  · obtain ⟨hd, rfl⟩ : decode cc pc = .ok (.if_icmp .ne _, 3) ∧ nx = pc + 3 := of_decide_eq_true hdec
    have ht := of_decide_eq_true htgt
    obtain ⟨⟨x9, t9⟩, rfl⟩ : ∃ q, tg = [q] := by
      cases tg with
      | nil => cases ht
      | cons q t =>
        cases t with
        | nil => exact ⟨q, rfl⟩
        | cons q2 t => exact absurd (congrArg List.length ht) (by simp)
    have ht : (t9 : Int) = (pc : Int) + _ := (List.cons.inj ht).1
    intro hn H locs la hP hD hS hl
    have hiff := q_eq h.1.1 h.1.2
    exact lv_icmp_ne hx hb hd ht.symm (fun c9 => hgo [] t9 _ _ _ rfl (h.2.1 (by first | exact hiff.mp c9 | (rw [hiff] at c9; exact c9))) hn H locs la hP hD hS hl) (fun c9 => hgo _ _ _ _ _ hr9 (h.2.2 (by first | exact hiff.mp c9 | (rw [hiff] at c9; exact c9))) hn H locs la hP hD hS hl)
  · obtain ⟨hd, rfl⟩ : decode cc pc = .ok (.if_icmp .lt _, 3) ∧ nx = pc + 3 := of_decide_eq_true hdec
    have ht := of_decide_eq_true htgt
    obtain ⟨⟨x9, t9⟩, rfl⟩ : ∃ q, tg = [q] := by
      cases tg with
      | nil => cases ht
      | cons q t =>
        cases t with
        | nil => exact ⟨q, rfl⟩
        | cons q2 t => exact absurd (congrArg List.length ht) (by simp)
    have ht : (t9 : Int) = (pc : Int) + _ := (List.cons.inj ht).1
    intro hn H locs la hP hD hS hl
    have hiff := q_lt h.1.1 h.1.2
    exact lv_icmp_lt hx hb hd ht.symm (fun c9 => hgo [] t9 _ _ _ rfl (h.2.1 (by first | exact hiff.mp c9 | (rw [hiff] at c9; exact c9))) hn H locs la hP hD hS hl) (fun c9 => hgo _ _ _ _ _ hr9 (h.2.2 (by first | exact hiff.mp c9 | (rw [hiff] at c9; exact c9))) hn H locs la hP hD hS hl)
  · obtain ⟨hd, rfl⟩ : decode cc pc = .ok (.if_icmp .ge _, 3) ∧ nx = pc + 3 := of_decide_eq_true hdec
    have ht := of_decide_eq_true htgt
    obtain ⟨⟨x9, t9⟩, rfl⟩ : ∃ q, tg = [q] := by
      cases tg with
      | nil => cases ht
      | cons q t =>
        cases t with
        | nil => exact ⟨q, rfl⟩
        | cons q2 t => exact absurd (congrArg List.length ht) (by simp)
    have ht : (t9 : Int) = (pc : Int) + _ := (List.cons.inj ht).1
    intro hn H locs la hP hD hS hl
    have hiff := q_le h.1.2 h.1.1
    exact lv_icmp_ge hx hb hd ht.symm (fun c9 => hgo [] t9 _ _ _ rfl (h.2.1 (by first | exact hiff.mp c9 | (rw [hiff] at c9; exact c9))) hn H locs la hP hD hS hl) (fun c9 => hgo _ _ _ _ _ hr9 (h.2.2 (by first | exact hiff.mp c9 | (rw [hiff] at c9; exact c9))) hn H locs la hP hD hS hl)
  · obtain ⟨hd, rfl⟩ : decode cc pc = .ok (.if_icmp .gt _, 3) ∧ nx = pc + 3 := of_decide_eq_true hdec
    have ht := of_decide_eq_true htgt
    obtain ⟨⟨x9, t9⟩, rfl⟩ : ∃ q, tg = [q] := by
      cases tg with
      | nil => cases ht
      | cons q t =>
        cases t with
        | nil => exact ⟨q, rfl⟩
        | cons q2 t => exact absurd (congrArg List.length ht) (by simp)
    have ht : (t9 : Int) = (pc : Int) + _ := (List.cons.inj ht).1
    intro hn H locs la hP hD hS hl
    have hiff := q_lt h.1.2 h.1.1
    exact lv_icmp_gt hx hb hd ht.symm (fun c9 => hgo [] t9 _ _ _ rfl (h.2.1 (by first | exact hiff.mp c9 | (rw [hiff] at c9; exact c9))) hn H locs la hP hD hS hl) (fun c9 => hgo _ _ _ _ _ hr9 (h.2.2 (by first | exact hiff.mp c9 | (rw [hiff] at c9; exact c9))) hn H locs la hP hD hS hl)
  · obtain ⟨hd, rfl⟩ : decode cc pc = .ok (.if_icmp .le _, 3) ∧ nx = pc + 3 := of_decide_eq_true hdec
    have ht := of_decide_eq_true htgt
    obtain ⟨⟨x9, t9⟩, rfl⟩ : ∃ q, tg = [q] := by
      cases tg with
      | nil => cases ht
      | cons q t =>
        cases t with
        | nil => exact ⟨q, rfl⟩
        | cons q2 t => exact absurd (congrArg List.length ht) (by simp)
    have ht : (t9 : Int) = (pc : Int) + _ := (List.cons.inj ht).1
    intro hn H locs la hP hD hS hl
    have hiff := q_le h.1.1 h.1.2
    exact lv_icmp_le hx hb hd ht.symm (fun c9 => hgo [] t9 _ _ _ rfl (h.2.1 (by first | exact hiff.mp c9 | (rw [hiff] at c9; exact c9))) hn H locs la hP hD hS hl) (fun c9 => hgo _ _ _ _ _ hr9 (h.2.2 (by first | exact hiff.mp c9 | (rw [hiff] at c9; exact c9))) hn H locs la hP hD hS hl)
  · obtain ⟨hd, rfl⟩ : decode cc pc = .ok (.goto _, 3) ∧ nx = pc + 3 := of_decide_eq_true hdec
    have ht := of_decide_eq_true htgt
    obtain ⟨⟨x9, t9⟩, rfl⟩ : ∃ q, tg = [q] := by
      cases tg with
      | nil => cases ht
      | cons q t =>
        cases t with
        | nil => exact ⟨q, rfl⟩
        | cons q2 t => exact absurd (congrArg List.length ht) (by simp)
    have ht : (t9 : Int) = (pc : Int) + _ := (List.cons.inj ht).1
    intro hn H locs la hP hD hS hl
    exact lv_goto hx hb hd ht.symm (hgo [] t9 _ _ _ rfl h hn H locs la hP hD hS hl)
  · have hd := of_decide_eq_true hdec
    have ht := of_decide_eq_true htgt
    intro hn H locs la hP hD hS hl
    have e9 := q_ti h.1
    rcases q_tabS ht h.2 with ⟨t, off, c1, c2, c3, c4, c5⟩ | ⟨t, c1, c2, c3⟩
    · exact lv_tableIn hx hb hd (by rw [e9]; exact c1) (by rw [e9]; exact c2) (by rw [e9]; exact c3) c4 (hgo [] t _ _ _ rfl c5 hn H locs la hP hD hS hl)
    · exact lv_tableOut hx hb hd (by rw [e9]; exact c1) c2 (hgo [] t _ _ _ rfl c3 hn H locs la hP hD hS hl)
  · have hd := of_decide_eq_true hdec
    have ht := of_decide_eq_true htgt
    intro hn H locs la hP hD hS hl
    have e9 := q_ti h.1
    obtain ⟨t, off, c1, c2, c3⟩ := q_lkS _ _ ht.1 h.2
    exact lv_lookup hx hb hd ht.2 (by rw [e9]; exact c1) c2 (hgo [] t _ _ _ rfl c3 hn H locs la hP hD hS hl)
  · obtain ⟨hd, rfl⟩ : decode cc pc = .ok (.ireturn, 1) ∧ nx = pc + 1 := of_decide_eq_true hdec
    intro hn H locs la hP hD hS hl
    obtain ⟨h1, h2⟩ := h
    have hq : ∀ t : State, t.heap = H → s.WarmedH t.vm → q_Qc T N ad D cy A Rt args s (.returned (some (q_cv ad (.inl _)))) t := fun t ht hW => ⟨⟨some _, μ, rfl, h2, by rw [ht]; exact hP⟩, hS.F ht⟩
    unfold q_rk at h1
    split at h1
    · exact W.iret hx hb hr hq hS.2.2 hd
    · exact W.zret hx hb hr (by rcases h1 with rfl | rfl <;> rfl) hq hS.2.2 hd
    · exact W.zret hx hb hr (by
        have := q_nc h1.1 h1.2
        show Value.int (vp_nar .char _) = _
        rw [this]) hq hS.2.2 hd
    · exact h1.elim
  · obtain ⟨hd, rfl⟩ : decode cc pc = .ok (.areturn, 1) ∧ nx = pc + 1 := of_decide_eq_true hdec
    intro hn H locs la hP hD hS hl
    obtain ⟨rfl, h0, h2⟩ := h
    obtain ⟨n9, hr⟩ := hr
    rw [List.map_cons, q_refv h0]
    exact W.aret hx hb hr (Or.inl ⟨_, rfl⟩) (Or.inr ⟨_, rfl⟩) (fun t ht hW => ⟨⟨some _, μ, by rw [Option.map_some, q_refv h0], h2, by rw [ht]; exact hP⟩, hS.F ht⟩) hS.2.2 hd
  · obtain ⟨hd, rfl⟩ : decode cc pc = .ok (.return_, 1) ∧ nx = pc + 1 := of_decide_eq_true hdec
    intro hn H locs la hP hD hS hl
    obtain ⟨rfl, h2⟩ := h
    exact W.vret hx hb hr (fun t ht hW => ⟨⟨none, μ, rfl, h2, by rw [ht]; exact hP⟩, hS.F ht⟩) hS.2.2 hd
  · obtain ⟨hd, rfl⟩ : decode cc pc = .ok (.getfield _, 3) ∧ nx = pc + 3 := of_decide_eq_true hdec
    refine q_fget F hf (of_decide_eq_true huse) hd ?_
    unfold q_fd at h ⊢
    split at h
    · refine ⟨h.1, ?_⟩
      have h2 := h.2
      split at h2
      · exact hgo _ _ _ _ _ hr9 h2
      · exact h2.elim
    · exact h.elim
  · obtain ⟨hd, rfl⟩ : decode cc pc = .ok (.putfield _, 3) ∧ nx = pc + 3 := of_decide_eq_true hdec
    have hu := of_decide_eq_true huse
    refine q_fput F hf hg hu.1 hu.2 hd ?_
    unfold q_fd at h ⊢
    split at h
    · refine ⟨h.1, ?_⟩
      have h2 := h.2
      split at h2
      · exact q_pfz h2 (fun z hz => hgo _ _ _ _ _ hr9 hz)
      · exact h2.elim
    · exact h.elim
  · obtain ⟨hd, rfl⟩ : decode cc pc = .ok (.iaload, 1) ∧ nx = pc + 1 := of_decide_eq_true hdec
    refine q_aload F (Or.inl ⟨rfl, hd⟩) ?_
    unfold q_ar at h ⊢
    split at h
    · exact ⟨h.1, h.2.1, h.2.2.1, h.2.2.2.1, hgo _ _ _ _ _ hr9 h.2.2.2.2⟩
    · exact h.elim
  · obtain ⟨hd, rfl⟩ : decode cc pc = .ok (.laload, 1) ∧ nx = pc + 1 := of_decide_eq_true hdec
    refine q_aloadL F hd ?_
    unfold q_ar at h ⊢
    split at h
    · exact ⟨h.1, h.2.1, h.2.2.1, h.2.2.2.1, hgo _ _ _ _ _ hr9 h.2.2.2.2⟩
    · exact h.elim
  · obtain ⟨hd, rfl⟩ : decode cc pc = .ok (.baload, 1) ∧ nx = pc + 1 := of_decide_eq_true hdec
    refine q_aload F (Or.inr (Or.inl ⟨rfl, hd⟩)) ?_
    unfold q_ar at h ⊢
    split at h
    · exact ⟨h.1, h.2.1, h.2.2.1, h.2.2.2.1, hgo _ _ _ _ _ hr9 h.2.2.2.2⟩
    · exact h.elim
  · obtain ⟨hd, rfl⟩ : decode cc pc = .ok (.caload, 1) ∧ nx = pc + 1 := of_decide_eq_true hdec
    refine q_aload F (Or.inr (Or.inr ⟨rfl, hd⟩)) ?_
    unfold q_ar at h ⊢
    split at h
    · exact ⟨h.1, h.2.1, h.2.2.1, h.2.2.2.1, hgo _ _ _ _ _ hr9 h.2.2.2.2⟩
    · exact h.elim
  · obtain ⟨hd, rfl⟩ : decode cc pc = .ok (.aaload, 1) ∧ nx = pc + 1 := of_decide_eq_true hdec
    refine q_aloadA F hd ?_
    unfold q_aa at h ⊢
    split at h
    · exact ⟨h.1, h.2.1, h.2.2.1, h.2.2.2.1, h.2.2.2.2.1, hgo _ _ _ _ _ hr9 h.2.2.2.2.2⟩
    · exact h.elim
  · obtain ⟨hd, rfl⟩ : decode cc pc = .ok (.iastore, 1) ∧ nx = pc + 1 := of_decide_eq_true hdec
    refine q_ast F (Or.inl ⟨rfl, hd⟩) ?_
    unfold q_ar at h ⊢
    split at h
    · exact ⟨h.1, h.2.1, h.2.2.1, h.2.2.2.1, hgo _ _ _ _ _ hr9 h.2.2.2.2⟩
    · exact h.elim
  · obtain ⟨hd, rfl⟩ : decode cc pc = .ok (.lastore, 1) ∧ nx = pc + 1 := of_decide_eq_true hdec
    refine q_astL F hd ?_
    unfold q_ar at h ⊢
    split at h
    · exact ⟨h.1, h.2.1, h.2.2.1, h.2.2.2.1, hgo _ _ _ _ _ hr9 h.2.2.2.2⟩
    · exact h.elim
  · obtain ⟨hd, rfl⟩ : decode cc pc = .ok (.bastore, 1) ∧ nx = pc + 1 := of_decide_eq_true hdec
    unfold q_ar at h
    split at h
    · rename_i hTa
      refine q_ast F (Or.inr (Or.inl ⟨h.2.2.2.2.1, rfl, hd⟩)) ?_
      unfold q_ar
      rw [hTa]
      exact ⟨h.1, h.2.1, h.2.2.1, h.2.2.2.1, hgo _ _ _ _ _ hr9 h.2.2.2.2.2⟩
    · exact h.elim
  · obtain ⟨hd, rfl⟩ : decode cc pc = .ok (.castore, 1) ∧ nx = pc + 1 := of_decide_eq_true hdec
    unfold q_ar at h
    split at h
    · rename_i hTa
      refine q_ast F (Or.inr (Or.inr ⟨h.2.2.2.2.1, rfl, hd⟩)) ?_
      unfold q_ar
      rw [hTa]
      exact ⟨h.1, h.2.1, h.2.2.1, h.2.2.2.1, hgo _ _ _ _ _ hr9 h.2.2.2.2.2⟩
    · exact h.elim
  · obtain ⟨hd, rfl⟩ : decode cc pc = .ok (.arraylength, 1) ∧ nx = pc + 1 := of_decide_eq_true hdec
    refine q_alen F hd ?_
    unfold q_al at h ⊢
    split at h
    · exact ⟨h.1, hgo _ _ _ _ _ hr9 h.2⟩
    · exact h.elim
  · obtain ⟨hd, rfl⟩ : decode cc pc = .ok (.invokevirtual _, 3) ∧ nx = pc + 3 := of_decide_eq_true hdec
    exact hcV _ (of_decide_eq_true huse) pc _ _ _ _ hd h.1 h.2.1 h.2.2 (fun o μ9 hk => hgo _ _ _ _ _ hr9 hk)
  · obtain ⟨hd, rfl⟩ : decode cc pc = .ok (.invokestatic _, 3) ∧ nx = pc + 3 := of_decide_eq_true hdec
    exact hcS _ (of_decide_eq_true huse) pc _ _ _ _ hd h.1 h.2.1 h.2.2 (fun o μ9 hk => hgo _ _ _ _ _ hr9 hk)
  · obtain ⟨hd, rfl⟩ : decode cc pc = .ok (.invokespecial _, 3) ∧ nx = pc + 3 := of_decide_eq_true hdec
    exact hcI _ (of_decide_eq_true huse) pc _ _ _ _ hd h.1 h.2.1 h.2.2 (fun o μ9 hk => hgo _ _ _ _ _ hr9 hk)
  · exact h.elim
end QS6
end
section
/-! from the conditions to contracts, and from contracts to calls -/
def q_A (N : List Int) (ad : Int → Nat) : Nat → Prop := fun q => ∃ a ∈ N, ad a = q
/-- what else is said of the heap outside (texts), and that it lasts -/
def q_Zok (A : Nat → Prop) (Z : State → Prop) : Prop := (∀ s U : State, Z s → s.WarmedH U.vm → s.heap.size ≤ U.heap.size → (∀ q : Nat, q < s.heap.size → ¬ A q → U.heap[q]? = s.heap[q]?) → Z U) ∧ ∀ s U : State, Z s → U.vm = s.vm → U.heap = s.heap → Z U
def q_Pc (T : Int → Option QS) (N : List Int) (ad : Int → Nat) (D : va_G) (cy : Nat → ClassId) (Z : State → Prop) (ra : List QV) (μ : QM) : Array Value → State → Prop := va_Pc (ra.reverse.map (q_cv ad)) (fun U => va_P D vwCl (q_ws T N ad cy μ) U.heap ∧ va_K D vwCl (q_tys cy) U ∧ va_D (q_A N ad) (q_ws T N ad cy μ) ∧ Z U)
/-- a method's contract: from any memory and arguments of which its words hold -/
def q_Ct (l : Launch) (T : Int → Option QS) (N : List Int) (ad : Int → Nat) (D : va_G) (cy : Nat → ClassId) (Z : State → Prop) (y : MethodName) (cc : ByteArray) (nL : Nat) (ret : Option FieldType) (rm : Room) (sp : QP) : Prop := ∀ (ra : List QV) (μ : QM) (K : Option QV → QM → Prop), sp ra μ K → Met l y (.code y cc nL ret :: q_tb) rm (q_Pc T N ad D cy Z ra μ) (q_Qc T N ad D cy (q_A N ad) K) 0 0 (q_A N ad)
def q_wok (T : Int → Option QS) (N : List Int) : Prop := (∀ (i j : Nat) (a : Int), N[i]? = some a → N[j]? = some a → i = j) ∧ (∀ (a : Int) (sh : QS), T a = some sh → a ∈ N ∧ 0 ≤ a) ∧ (∀ (a : Int) (ci : Nat) (ks : List QK) (q : vw_C), T a = some (.inl (ci, ks)) → vwCl[ci]? = some q → q_kok q ks)
theorem q_wsD {T : Int → Option QS} {N : List Int} {ad : Int → Nat} {cy : Nat → ClassId} {A : Nat → Prop} {μ μ' : QM} (h : va_D A (q_ws T N ad cy μ)) : va_D A (q_ws T N ad cy μ') := by
  have key : ∀ (k : Nat) (q : Nat × va_E), (q_ws T N ad cy μ')[k]? = some q → ∃ q0, (q_ws T N ad cy μ)[k]? = some q0 ∧ q0.1 = q.1 := by
    intro k q hk
    unfold q_ws at hk ⊢
    rw [List.getElem?_map] at hk ⊢
    cases hn : N[k]? with
    | none => rw [hn] at hk; cases hk
    | some a => rw [hn] at hk; cases hk; exact ⟨_, rfl, rfl⟩
  refine ⟨fun i j x y hi hj hxy => ?_, fun k q hk => ?_⟩
  · obtain ⟨x0, h1, h2⟩ := key i x hi
    obtain ⟨y0, h3, h4⟩ := key j y hj
    exact h.1 i j x0 y0 h1 h3 (h2.trans (hxy.trans h4.symm))
  · obtain ⟨q0, h1, h2⟩ := key k q hk
    rw [← h2]
    exact h.2 k q0 h1
/-! the locals at the entry -/
def q_sl : List QV → QL
  | [] => []
  | v :: t => some v :: (if q_ct v = 2 then none :: q_sl t else q_sl t)
def q_in0 (nL : Nat) (ra : List QV) : QL := q_sl ra.reverse ++ List.replicate (nL - (q_sl ra.reverse).length) none
theorem q_sln (ad : Int → Nat) : ∀ vs : List QV, (lg_sl (vs.map (q_cv ad))).length = (q_sl vs).length
  | [] => rfl
  | v :: t => by
    have ih := q_sln ad t
    show ((if (q_cv ad v).category = 2 then [Slot.val (q_cv ad v), Slot.second] else [Slot.val (q_cv ad v)]) ++ lg_sl (t.map (q_cv ad))).length = (some v :: (if q_ct v = 2 then none :: q_sl t else q_sl t)).length
    rw [List.length_append, ih, q_ctv]
    split
    · simp only [List.length_cons, List.length_nil]; omega
    · simp only [List.length_cons, List.length_nil]; omega
theorem q_lga : ∀ (ls : QL) (n i : Nat) (v : QV), q_lg (ls ++ List.replicate n none) i = some v → q_lg ls i = some v
  | [], n, i, v, h => by
    have : ∀ (n i : Nat), q_lg (List.replicate n none) i = none := by
      intro n
      induction n with
      | zero => intro i; rfl
      | succ n ih => intro i; cases i with
        | zero => rfl
        | succ i => exact ih i
    rw [List.nil_append, this] at h
    cases h
  | x :: t, n, 0, v, h => h
  | x :: t, n, i + 1, v, h => q_lga t n i v h
theorem q_sla (ad : Int → Nat) : ∀ (vs : List QV) (o i : Nat) (v : QV), q_lg (q_sl vs) i = some v → (o + i, q_cv ad v) ∈ lv_args o (vs.map (q_cv ad))
  | [], _, _, _, h => by cases h
  | w :: t, o, 0, v, h => by
    cases h
    exact List.mem_cons_self
  | w :: t, o, i + 1, v, h => by
    have h1 : q_lg (if q_ct w = 2 then none :: q_sl t else q_sl t) i = some v := h
    refine List.mem_cons_of_mem _ ?_
    show (o + (i + 1), q_cv ad v) ∈ lv_args (if (q_cv ad w).category = 2 then o + 2 else o + 1) (t.map (q_cv ad))
    rw [q_ctv]
    by_cases c : q_ct w = 2
    · rw [if_pos c] at h1 ⊢
      cases i with
      | zero => cases h1
      | succ i =>
        have := q_sla ad t (o + 2) i v h1
        rw [show o + 2 + i = o + (i + 1 + 1) by omega] at this
        exact this
    · rw [if_neg c] at h1 ⊢
      have := q_sla ad t (o + 1) i v h1
      rw [show o + 1 + i = o + (i + 1) by omega] at this
      exact this
theorem q_slS (ad : Int → Nat) {ra : List QV} {nL : Nat} (h : (q_sl ra.reverse).length ≤ nL) : lv_has ((lg_sl (ra.reverse.map (q_cv ad)) ++ List.replicate (nL - (lg_sl (ra.reverse.map (q_cv ad))).length) Slot.unset).toArray) nL (q_prs ad (q_in0 nL ra)) := by
  have h1 := lv_entry (ra.reverse.map (q_cv ad)) (n := nL) (by rw [q_sln]; exact h)
  refine ⟨h1.1, h1.2.1, fun q hq => h1.2.2 q ?_⟩
  obtain ⟨v, e1, e2⟩ := q_mem2 hq
  have := q_sla ad ra.reverse 0 q.1 v (q_lga _ _ _ _ e1)
  rw [Nat.zero_add, ← e2] at this
  exact this
section QM7
variable (l : Launch) (T : Int → Option QS) (N : List Int) (ad : Int → Nat) (D : va_G) (cy : Nat → ClassId) (Z : State → Prop)
/-- the machine in a body -/
abbrev q_SB (Rt : Option QV → QM → Prop) (p : Program) (e : Env) (R : Room) (s : State) (m : MethodId) (args : Array Value) (below : List Frame) (meth : Method) (c : Code) (nL : Nat) : Nat → QL → List QV → QM → Prop := q_SW p l e R s m args below meth c (q_A N ad) s.heap T N ad D cy nL (MQ below (q_Qc T N ad D cy (q_A N ad) Rt) args s 0 0 (q_A N ad))
/-- a call of the instruction ins goes by its words -/
def q_CR (own : String) (cc : ByteArray) (nL : Nat) (R : Room) (G : Nat × QP) (ins : Instr) : Prop := ∀ (Rt : Option QV → QM → Prop) (p : Program) (e : Env) (s : State) (m : MethodId) (args : Array Value) (below : List Frame) (meth : Method) (c : Code), q_Fix p s m args meth c T N D cy own cc → c.maxLocals = nL → Z s →
  ∀ (pc : Nat) (ls : QL) (st : List QV) (μ : QM) (K : Option QV → QM → Prop), decode cc pc = .ok (ins, 3) → G.1 ≤ st.length → q_cats (st.drop G.1) ≤ 8 → G.2 (st.take G.1) μ K → (∀ o μ', K o μ' → q_SB l T N ad D cy Rt p e R s m args below meth c nL (pc + 3) ls (o.toList ++ st.drop G.1) μ') → q_SB l T N ad D cy Rt p e R s m args below meth c nL pc ls st μ
/-- a text is laid on the stack -/
def q_LR (own : String) (cc : ByteArray) (nL : Nat) (R : Room) (v : QV) (i : Nat) : Prop := ∀ (Rt : Option QV → QM → Prop) (p : Program) (e : Env) (s : State) (m : MethodId) (args : Array Value) (below : List Frame) (meth : Method) (c : Code), q_Fix p s m args meth c T N D cy own cc → c.maxLocals = nL → Z s →
  ∀ (pc : Nat) (ls : QL) (st : List QV) (μ : QM), decode cc pc = .ok (.ldc i, 2) → q_SB l T N ad D cy Rt p e R s m args below meth c nL (pc + 2) ls (v :: st) μ → q_SB l T N ad D cy Rt p e R s m args below meth c nL pc ls st μ
end QM7
/-- what a body's proof may use: nothing of the machine -/
def q_Rule (cc : ByteArray) (nL : Nat) (u : QU) (fl : Nat → Nat × Nat) (ld : Nat → QV) (Γ : Nat → Nat × QP) (T : Int → Option QS) (rk : Nat) (sk : Nat → Option (List QE)) (Rt : Option QV → QM → Prop) (S : Nat → QL → List QV → QM → Prop) : Prop := ∀ (n : Nat) (b : List QE) (pc : Nat) (ls : QL) (st : List QV) (μ : QM), q_ok cc nL u pc b = true → q_vc fl ld Γ T rk Rt sk S n b pc ls st μ → S pc ls st μ
def q_Body (cc : ByteArray) (nL : Nat) (u : QU) (fl : Nat → Nat × Nat) (ld : Nat → QV) (Γ : Nat → Nat × QP) (T : Int → Option QS) (rk : Nat) (sk : Nat → Option (List QE)) (sp : QP) : Prop := ∀ (S : Nat → QL → List QV → QM → Prop) (Rt : Option QV → QM → Prop), q_Rule cc nL u fl ld Γ T rk sk Rt S → ∀ (ra : List QV) (μ : QM), sp ra μ Rt → (q_sl ra.reverse).length ≤ nL ∧ S 0 (q_in0 nL ra) [] μ
theorem q_good : ∀ w ∈ q_tb, (w.onTables && w.keeps) = true ∨ ∃ ty, w = .arrayClass ty := fun w hw => good_of_word (List.mem_filter.mp hw).2
section QM8
variable {l : Launch} {T : Int → Option QS} {N : List Int} {ad : Int → Nat} {D : va_G} {cy : Nat → ClassId} {Z : State → Prop}
theorem q_met {y : MethodName} {own : String} {cc : ByteArray} {nL : Nat} {ret : Option FieldType} {rm : Room} {sp : QP} {u : QU} {fl : Nat → Nat × Nat} {ld : Nat → QV} {Γ : Nat → Nat × QP} {rk : Nat} {sk : Nat → Option (List QE)}
    (hw : q_wok T N) (hy : plainName y.cls = true) (ho : y.cls = own) (hf : q_fok own fl u.1) (hg : q_fokP own fl u.2.1) (hld : q_ldk own ld u.2.2.1) (hr : q_rto rk ret) (hsk : ∀ (pc : Nat) (b : List QE), sk pc = some b → q_ok cc nL u pc b = true)
    (hL : ∀ i ∈ u.2.2.2.1, q_LR l T N ad D cy Z own cc nL rm (ld i) i) (hV : ∀ i ∈ u.2.2.2.2.1, q_CR l T N ad D cy Z own cc nL rm (Γ i) (.invokevirtual i)) (hS : ∀ i ∈ u.2.2.2.2.2.1, q_CR l T N ad D cy Z own cc nL rm (Γ i) (.invokestatic i)) (hI : ∀ i ∈ u.2.2.2.2.2.2, q_CR l T N ad D cy Z own cc nL rm (Γ i) (.invokespecial i))
    (hB : q_Body cc nL u fl ld Γ T rk sk sp) : q_Ct l T N ad D cy Z y cc nL ret rm sp := by
  intro ra μ K hsp
  refine Met.ofW (cc := cc) (maxL := nL) (ret := ret) hy rfl ?_
  intro p e s m args below meth c s₁ B hml hv
  obtain ⟨rfl, hP, hK, hD, hZ⟩ := hv
  have hts0 := atoms_spec (ws := .code y cc nL ret :: q_tb) B.pre
  have hown : s.vm.findClass own = some m.cls := by rw [← ho]; exact findClass_of_methodNamed B.named
  have F : q_Fix p s m (ra.reverse.map (q_cv ad)).toArray meth c T N D cy own cc := ⟨B.exec, B.bytes, hown, fun w h => hts0 w (List.mem_cons_of_mem _ h), hK, B.notSynchronized, hw.1, hw.2.1, hw.2.2⟩
  have rule : q_Rule cc nL u fl ld Γ T rk sk K (q_SB l T N ad D cy K p e rm s m (ra.reverse.map (q_cv ad)).toArray below meth c nL) := by
    intro n
    induction n with
    | zero => intro b pc ls st μ _ h; exact h.elim
    | succ n ih =>
      intro b pc ls st μ hok h
      cases b with
      | nil =>
        have h' : (match sk pc with | none => q_SB l T N ad D cy K p e rm s m (ra.reverse.map (q_cv ad)).toArray below meth c nL pc ls st μ | some b => q_vc fl ld Γ T rk K sk (q_SB l T N ad D cy K p e rm s m (ra.reverse.map (q_cv ad)).toArray below meth c nL) n b pc ls st μ) := h
        cases hs : sk pc with
        | none => rw [hs] at h'; exact h'
        | some b => rw [hs] at h'; exact ih b pc ls st μ (hsk pc b hs) h'
      | cons x r =>
        obtain ⟨ins, nx, tg⟩ := x
        have hr' : q_rto rk meth.sig.returnType := by rw [B.returns]; exact hr
        exact q_stpS F hf hg hld hr' (fun i hi pc ls st μ hd k => hL i hi K p e s m _ below meth c F hml hZ pc ls st μ hd k) (fun i hi pc ls st μ K9 h1 h2 h3 h4 h5 => hV i hi K p e s m _ below meth c F hml hZ pc ls st μ K9 h1 h2 h3 h4 h5) (fun i hi pc ls st μ K9 h1 h2 h3 h4 h5 => hS i hi K p e s m _ below meth c F hml hZ pc ls st μ K9 h1 h2 h3 h4 h5) (fun i hi pc ls st μ K9 h1 h2 h3 h4 h5 => hI i hi K p e s m _ below meth c F hml hZ pc ls st μ K9 h1 h2 h3 h4 h5) (q_vc fl ld Γ T rk K sk (q_SB l T N ad D cy K p e rm s m (ra.reverse.map (q_cv ad)).toArray below meth c nL) n) (fun b pc ls st μ => ih b pc ls st μ) pc ins nx tg r ls st μ hok h
  obtain ⟨hlen, hS0⟩ := hB _ K rule ra μ hsp
  rw [lg_entry_eq]
  refine hS0 ?_ s.heap [] _ hP hD va_S.rf (q_slS ad hlen)
  unfold q_in0
  rw [List.length_append, List.length_replicate]
  omega
/-! calls -/
theorem q_blind {ra : List QV} {μ : QM} (hZ : q_Zok (q_A N ad) Z) : FrameBlind (q_Pc T N ad D cy Z ra μ) := fun a U g mk q => by
  obtain ⟨q0, qP, qK, qD, qZ⟩ := q
  exact ⟨q0, qP, va_K.moved (u := U) (U := U.calling g mk a) (Vm.Alike.refl U.vm) qK, qD, hZ.2 U _ qZ rfl rfl⟩
theorem q_back {Rt : Option QV → QM → Prop} {p : Program} {e : Env} {R : Room} {s : State} {m : MethodId} {args : Array Value} {below : List Frame} {meth : Method} {c : Code} {nL : Nat} {H : Heap} {locs : List Loc} {la : Array Slot} {pc : Nat} {ls : QL} {st rest : List QV} {μ : QM} {K : Option QV → QM → Prop} {av : Array Value}
    (hr : va_Run p l e R s m args below meth c H locs 0 0 0 0 (F0 m pc la (st.map (q_cv ad))) (rest.map (q_cv ad)) (q_Qc T N ad D cy (q_A N ad) K av) (q_A N ad)) (hn : ls.length = nL) (hD : va_D (q_A N ad) (q_ws T N ad cy μ)) (hS : va_S (q_A N ad) s.heap H locs) (hl : lv_has la nL (q_prs ad ls))
    (hk : ∀ o μ', K o μ' → q_SB l T N ad D cy Rt p e R s m args below meth c nL (pc + 3) ls (o.toList ++ rest) μ') : W p l e R s m args below meth c H locs 0 0 (MQ below (q_Qc T N ad D cy (q_A N ad) Rt) args s 0 0 (q_A N ad)) (F0 m pc la (st.map (q_cv ad))) := by
  intro U hU X
  obtain ⟨v, st₀, t, T', L, h0, X', hL, e1, e2, ⟨⟨o, μ', hv, hKo, hP'⟩, hz, hkp⟩, stp⟩ := hr U hU X
  have hv : v = o.map (q_cv ad) := Outcome.returned.inj hv
  subst hv
  rw [h0] at hz hkp
  have hS' : va_S (q_A N ad) s.heap T'.heap (locs ++ L) := ⟨Nat.le_trans hS.1 (by rw [e1]; exact hz), fun q h1 h2 => by rw [e1, hkp q (Nat.lt_of_lt_of_le h1 hS.1) h2]; exact hS.2.1 q h1 h2, fun q hq => by
    rcases List.mem_append.mp hq with h | h
    · exact hS.2.2 q h
    · exact hL q h⟩
  obtain ⟨t2, a1, b1⟩ := hk o μ' hKo hn T'.heap (locs ++ L) la (by rw [e1]; exact hP') (q_wsD hD) hS' hl T' rfl X'
  refine ⟨t2, stp t2 ?_, b1⟩
  have e9 : (o.toList ++ rest).map (q_cv ad) = (o.map (q_cv ad)).toList ++ rest.map (q_cv ad) := by cases o <;> rfl
  rw [e9] at a1
  exact a1
theorem q_pre {s : State} {m : MethodId} {args : Array Value} {meth : Method} {c : Code} {p : Program} {own : String} {cc : ByteArray} {ra : List QV} {μ : QM} {H : Heap} {locs : List Loc} (hZok : q_Zok (q_A N ad) Z) (F : q_Fix p s m args meth c T N D cy own cc) (hZ : Z s) (hP : va_P D vwCl (q_ws T N ad cy μ) H) (hD : va_D (q_A N ad) (q_ws T N ad cy μ)) (hS : va_S (q_A N ad) s.heap H locs) : ∀ U : State, U.heap = H → s.WarmedH U.vm → q_Pc T N ad D cy Z ra μ (ra.reverse.map (q_cv ad)).toArray U := by
  intro U hU hW
  exact ⟨rfl, by rw [hU]; exact hP, va_K.moved hW.alike F.2.2.2.2.1, hD, hZok.1 s U hZ hW (by rw [hU]; exact hS.1) (fun q h1 h2 => by rw [hU]; exact hS.2.1 q h1 h2)⟩
theorem q_goodW {y : MethodName} {bytes : ByteArray} {maxL : Nat} {ret : Option FieldType} (h : Cond.code y bytes maxL ret ∈ q_tb) : GoodIn q_tb (.code y bytes maxL ret :: q_tb) := by
  intro w hw
  rcases List.mem_cons.mp hw with rfl | hw
  · exact ⟨h, q_good _ h⟩
  · exact ⟨hw, q_good _ hw⟩
theorem q_roomS {m : MethodId} {pc : Nat} {la : Array Slot} {x : List Value} {rest : List QV} (h : q_cats rest ≤ 8) : 2 * (F0 m pc la x).monitorRoom + ((rest.map (q_cv ad)).map fun v => v.category).sum ≤ 8 := lv_room (by rw [q_catsS]; exact h)
theorem q_split {st : List QV} {n : Nat} : st.map (q_cv ad) = ((st.take n).map (q_cv ad)) ++ (st.drop n).map (q_cv ad) := by rw [← List.map_append, List.take_append_drop]
/-- a static method, of any class -/
theorem q_crS {y : MethodName} {own : String} {cc bytes : ByteArray} {nL maxL i n : Nat} {ret : Option FieldType} {R rm : Room} {sp : QP} (hZok : q_Zok (q_A N ad) Z) (hC : q_Ct l T N ad D cy Z y bytes maxL ret rm sp) (hm : Cond.code y bytes maxL ret ∈ q_tb) (h1 : Cond.methodLink own i y ∈ q_tb) (h2 : Cond.static y ∈ q_tb) (h3 : Cond.initialized y.cls ∈ q_tb)
    (hd : y.cls ≠ "java/lang/invoke/MethodHandle" ∧ y.cls ≠ "java/lang/invoke/VarHandle" ∧ (parseMethodDescriptor y.desc).map (fun d => d.parameters.length) = some n) (hc : rm.cells = 0 ∧ rm.slots = 0) (hR : rm.frames + 1 ≤ R.frames ∧ 8 + (maxL + 11) + rm.locals ≤ R.locals) : q_CR l T N ad D cy Z own cc nL R (n, sp) (.invokestatic i) := by
  intro Rt p e s m args below meth c F hml hZ pc ls st μ K hdg hlen hcat hsp hk hn H locs la hP hD hS hl
  have hts := F.2.2.2.1
  have hM := hC (st.take n) μ K hsp
  have cw := callB_of (R := R) (own := own) (index := i) (mc := 0) (ms := 0) n hts (q_goodW hm) rfl hc.1 hc.2 (hts _ h3) (hts _ h1) hd hR
  have hp : PreS s H (q_Pc T N ad D cy Z (st.take n) μ) ((st.take n).reverse.map (q_cv ad)) := ⟨q_blind hZok, q_pre hZok F hZ hP hD hS⟩
  exact q_back (va_runS (rest := (st.drop n).map (q_cv ad)) ⟨F.1, F.2.1, hml, F.2.2.1, hts⟩ hM ⟨cw, hts _ h2⟩ hp rfl (by rw [List.length_map, List.length_reverse, List.length_take]; omega) hl.1 (by rw [← List.map_reverse, List.reverse_reverse]; exact q_split) (q_roomS hcat) hdg ⟨Nat.zero_le _, Nat.zero_le _⟩) hn hD hS hl hk
theorem q_crSN {y : MethodName} {own host : String} {cc bytes : ByteArray} {nL maxL i n : Nat} {ret : Option FieldType} {R rm : Room} {sp : QP} (hZok : q_Zok (q_A N ad) Z) (hC : q_Ct l T N ad D cy Z y bytes maxL ret rm sp) (hm : Cond.code y bytes maxL ret ∈ q_tb) (h1 : ∀ s : State, Z s → va_Nw (.methodLinkNest own i y host) s) (h2 : Cond.static y ∈ q_tb) (h3 : Cond.initialized y.cls ∈ q_tb)
    (hd : y.cls ≠ "java/lang/invoke/MethodHandle" ∧ y.cls ≠ "java/lang/invoke/VarHandle" ∧ (parseMethodDescriptor y.desc).map (fun d => d.parameters.length) = some n) (hc : rm.cells = 0 ∧ rm.slots = 0) (hR : rm.frames + 1 ≤ R.frames ∧ 8 + (maxL + 11) + rm.locals ≤ R.locals) : q_CR l T N ad D cy Z own cc nL R (n, sp) (.invokestatic i) := by
  intro Rt p e s m args below meth c F hml hZ pc ls st μ K hdg hlen hcat hsp hk hn H locs la hP hD hS hl
  have hts := F.2.2.2.1
  have hM := hC (st.take n) μ K hsp
  have cw := va_cnB (R := R) (own := own) (index := i) (mc := 0) (ms := 0) n hts (q_goodW hm) rfl hc.1 hc.2 (h1 s hZ) (hts _ h3) hd hR
  have hp : PreS s H (q_Pc T N ad D cy Z (st.take n) μ) ((st.take n).reverse.map (q_cv ad)) := ⟨q_blind hZok, q_pre hZok F hZ hP hD hS⟩
  exact q_back (va_runSN (rest := (st.drop n).map (q_cv ad)) ⟨F.1, F.2.1, hml, F.2.2.1, hts⟩ hM ⟨cw, hts _ h2, trivial⟩ hp rfl (by rw [List.length_map, List.length_reverse, List.length_take]; omega) hl.1 (by rw [← List.map_reverse, List.reverse_reverse]; exact q_split) (q_roomS hcat) hdg ⟨Nat.zero_le _, Nat.zero_le _⟩) hn hD hS hl hk
/-- what a method's words say of its receiver -/
def q_rcv (T : Int → Option QS) (C : String) (sp : QP) : Prop := ∀ (ra : List QV) (μ : QM) (K : Option QV → QM → Prop), sp ra μ K → ∃ (rA : List QV) (b : Int) (ci : Nat) (ks : List QK) (q : vw_C), ra = rA ++ [.inr (.inr b)] ∧ T b = some (.inl (ci, ks)) ∧ vwCl[ci]? = some q ∧ q.1 = C
theorem q_crV {y : MethodName} {own : String} {cc bytes : ByteArray} {nL maxL i n : Nat} {ret : Option FieldType} {R rm : Room} {sp : QP} (hZok : q_Zok (q_A N ad) Z) (hC : q_Ct l T N ad D cy Z y bytes maxL ret rm sp) (hrc : q_rcv T y.cls sp) (hm : Cond.code y bytes maxL ret ∈ q_tb) (h1 : Cond.methodLink own i y ∈ q_tb) (h2 : Cond.instanceMethod y ∈ q_tb) (h4 : Cond.selects y.cls y y ∈ q_tb) (h3 : Cond.initialized y.cls ∈ q_tb)
    (hd : y.cls ≠ "java/lang/invoke/MethodHandle" ∧ y.cls ≠ "java/lang/invoke/VarHandle" ∧ (parseMethodDescriptor y.desc).map (fun d => d.parameters.length) = some n) (hc : rm.cells = 0 ∧ rm.slots = 0) (hR : rm.frames + 1 ≤ R.frames ∧ 8 + (maxL + 11) + rm.locals ≤ R.locals) : q_CR l T N ad D cy Z own cc nL R (n + 1, sp) (.invokevirtual i) := by
  intro Rt p e s m args below meth c F hml hZ pc ls st μ K hdg hlen hcat hsp hk hn H locs la hP hD hS hl
  have hts := F.2.2.2.1
  have hM := hC (st.take (n + 1)) μ K hsp
  obtain ⟨rA, b, ci, ks, q, e1, e2, e3, e4⟩ := hrc _ _ _ hsp
  have cw := callB_of (R := R) (own := own) (index := i) (mc := 0) (ms := 0) n hts (q_goodW hm) rfl hc.1 hc.2 (hts _ h3) (hts _ h1) hd hR
  obtain ⟨h0, k9, -, hw9⟩ := q_cell (ad := ad) F e2
  have hrev : (st.take (n + 1)).reverse.map (q_cv ad) = .ref (ad b) :: rA.reverse.map (q_cv ad) := by rw [e1, List.reverse_append, List.reverse_singleton, List.singleton_append, List.map_cons, q_refv h0]
  have hlA : rA.length = n := by
    have := congrArg List.length e1
    rw [List.length_take, List.length_append, List.length_singleton] at this
    omega
  have hp : PreV s H y.cls (ad b) (q_Pc T N ad D cy Z (st.take (n + 1)) μ) (rA.reverse.map (q_cv ad)) := ⟨q_blind hZok, by rw [← e4]; exact va_recv F.2.2.2.2.1 hP e3 (hw9 μ), fun U hU hW => by rw [← hrev]; exact q_pre hZok F hZ hP hD hS U hU hW⟩
  exact q_back (va_runV (rest := (st.drop (n + 1)).map (q_cv ad)) ⟨F.1, F.2.1, hml, F.2.2.1, hts⟩ hM ⟨cw, hts _ h2, hts _ h4⟩ hp rfl (by rw [List.length_map, List.length_reverse]; exact hlA) hl.1 (by
    show st.map (q_cv ad) = _
    rw [q_split (n := n + 1), e1, ← List.map_reverse, List.reverse_reverse, List.map_append, List.map_singleton, q_refv h0, List.append_assoc]
    rfl) (q_roomS hcat) hdg ⟨Nat.zero_le _, Nat.zero_le _⟩) hn hD hS hl hk
end QM8
end
section
section QV8
variable {fl : Nat → Nat × Nat} {ld : Nat → QV} {Γ : Nat → Nat × QP} {T : Int → Option QS} {rk : Nat} {Rt : Option QV → QM → Prop} {sk : Nat → Option (List QE)} {S : Nat → QL → List QV → QM → Prop} {n pc nx t9 : Nat} {tg : List (Int × Nat)} {r : List QE} {ls : QL} {st : List QV} {μ : QM}
def q_opt (o : Option (List QE)) (f : List QE → Prop) (g : Prop) : Prop := match o with
  | none => g
  | some b => f b
theorem v_opt_n (f : List QE → Prop) (g : Prop) : q_opt none f g = g := propext Iff.rfl
theorem v_opt_s (b : List QE) (f : List QE → Prop) (g : Prop) : q_opt (some b) f g = f b := propext Iff.rfl
theorem v_nil : q_vc fl ld Γ T rk Rt sk S (n + 1) [] pc ls st μ = q_opt (sk pc) (fun b => q_vc fl ld Γ T rk Rt sk S n b pc ls st μ) (S pc ls st μ) := by show (match sk pc with | none => _ | some b => _) = _; cases sk pc <;> rfl
theorem v_iconst {v : Int} : q_vc fl ld Γ T rk Rt sk S (n + 1) ((.iconst v, nx, tg) :: r) pc ls (st) μ = (q_vc fl ld Γ T rk Rt sk S n r nx ls (.inl v :: st) μ) := propext Iff.rfl
theorem v_bipush {v : Int} : q_vc fl ld Γ T rk Rt sk S (n + 1) ((.bipush v, nx, tg) :: r) pc ls (st) μ = ((-128 ≤ v ∧ v < 128) ∧ q_vc fl ld Γ T rk Rt sk S n r nx ls (.inl v :: st) μ) := propext Iff.rfl
theorem v_sipush {v : Int} : q_vc fl ld Γ T rk Rt sk S (n + 1) ((.sipush v, nx, tg) :: r) pc ls (st) μ = ((-32768 ≤ v ∧ v < 32768) ∧ q_vc fl ld Γ T rk Rt sk S n r nx ls (.inl v :: st) μ) := propext Iff.rfl
theorem v_lconst0  : q_vc fl ld Γ T rk Rt sk S (n + 1) ((.lconst 0, nx, tg) :: r) pc ls (st) μ = (q_vc fl ld Γ T rk Rt sk S n r nx ls (.inr (.inl 0) :: st) μ) := propext Iff.rfl
theorem v_lconst1  : q_vc fl ld Γ T rk Rt sk S (n + 1) ((.lconst 1, nx, tg) :: r) pc ls (st) μ = (q_vc fl ld Γ T rk Rt sk S n r nx ls (.inr (.inl 1) :: st) μ) := propext Iff.rfl
theorem v_ldc {i : Nat} : q_vc fl ld Γ T rk Rt sk S (n + 1) ((.ldc i, nx, tg) :: r) pc ls (st) μ = (q_ct (ld i) = 1 ∧ q_vc fl ld Γ T rk Rt sk S n r nx ls (ld i :: st) μ) := propext Iff.rfl
theorem v_ldcw {i : Nat} : q_vc fl ld Γ T rk Rt sk S (n + 1) ((.ldc_w i, nx, tg) :: r) pc ls (st) μ = (q_int (some (ld i)) (fun z => q_vc fl ld Γ T rk Rt sk S n r nx ls (.inl z :: st) μ)) := propext Iff.rfl
theorem v_ldc2 {i : Nat} : q_vc fl ld Γ T rk Rt sk S (n + 1) ((.ldc2_w i, nx, tg) :: r) pc ls (st) μ = (q_lng (some (ld i)) (fun z => q_vc fl ld Γ T rk Rt sk S n r nx ls (.inr (.inl z) :: st) μ)) := propext Iff.rfl
theorem v_iload0  : q_vc fl ld Γ T rk Rt sk S (n + 1) ((.iload_n 0, nx, tg) :: r) pc ls (st) μ = (q_int (q_lg ls 0) (fun z => q_vc fl ld Γ T rk Rt sk S n r nx ls (.inl z :: st) μ)) := propext Iff.rfl
theorem v_iload1  : q_vc fl ld Γ T rk Rt sk S (n + 1) ((.iload_n 1, nx, tg) :: r) pc ls (st) μ = (q_int (q_lg ls 1) (fun z => q_vc fl ld Γ T rk Rt sk S n r nx ls (.inl z :: st) μ)) := propext Iff.rfl
theorem v_iload2  : q_vc fl ld Γ T rk Rt sk S (n + 1) ((.iload_n 2, nx, tg) :: r) pc ls (st) μ = (q_int (q_lg ls 2) (fun z => q_vc fl ld Γ T rk Rt sk S n r nx ls (.inl z :: st) μ)) := propext Iff.rfl
theorem v_iload3  : q_vc fl ld Γ T rk Rt sk S (n + 1) ((.iload_n 3, nx, tg) :: r) pc ls (st) μ = (q_int (q_lg ls 3) (fun z => q_vc fl ld Γ T rk Rt sk S n r nx ls (.inl z :: st) μ)) := propext Iff.rfl
theorem v_iload {i : Nat} : q_vc fl ld Γ T rk Rt sk S (n + 1) ((.iload i, nx, tg) :: r) pc ls (st) μ = (q_int (q_lg ls i) (fun z => q_vc fl ld Γ T rk Rt sk S n r nx ls (.inl z :: st) μ)) := propext Iff.rfl
theorem v_lload0  : q_vc fl ld Γ T rk Rt sk S (n + 1) ((.lload_n 0, nx, tg) :: r) pc ls (st) μ = (q_lng (q_lg ls 0) (fun z => q_vc fl ld Γ T rk Rt sk S n r nx ls (.inr (.inl z) :: st) μ)) := propext Iff.rfl
theorem v_lload1  : q_vc fl ld Γ T rk Rt sk S (n + 1) ((.lload_n 1, nx, tg) :: r) pc ls (st) μ = (q_lng (q_lg ls 1) (fun z => q_vc fl ld Γ T rk Rt sk S n r nx ls (.inr (.inl z) :: st) μ)) := propext Iff.rfl
theorem v_lload2  : q_vc fl ld Γ T rk Rt sk S (n + 1) ((.lload_n 2, nx, tg) :: r) pc ls (st) μ = (q_lng (q_lg ls 2) (fun z => q_vc fl ld Γ T rk Rt sk S n r nx ls (.inr (.inl z) :: st) μ)) := propext Iff.rfl
theorem v_lload3  : q_vc fl ld Γ T rk Rt sk S (n + 1) ((.lload_n 3, nx, tg) :: r) pc ls (st) μ = (q_lng (q_lg ls 3) (fun z => q_vc fl ld Γ T rk Rt sk S n r nx ls (.inr (.inl z) :: st) μ)) := propext Iff.rfl
theorem v_lload {i : Nat} : q_vc fl ld Γ T rk Rt sk S (n + 1) ((.lload i, nx, tg) :: r) pc ls (st) μ = (q_lng (q_lg ls i) (fun z => q_vc fl ld Γ T rk Rt sk S n r nx ls (.inr (.inl z) :: st) μ)) := propext Iff.rfl
theorem v_aload0  : q_vc fl ld Γ T rk Rt sk S (n + 1) ((.aload_n 0, nx, tg) :: r) pc ls (st) μ = (q_ref (q_lg ls 0) (fun z => q_vc fl ld Γ T rk Rt sk S n r nx ls (.inr (.inr z) :: st) μ)) := propext Iff.rfl
theorem v_aload1  : q_vc fl ld Γ T rk Rt sk S (n + 1) ((.aload_n 1, nx, tg) :: r) pc ls (st) μ = (q_ref (q_lg ls 1) (fun z => q_vc fl ld Γ T rk Rt sk S n r nx ls (.inr (.inr z) :: st) μ)) := propext Iff.rfl
theorem v_aload2  : q_vc fl ld Γ T rk Rt sk S (n + 1) ((.aload_n 2, nx, tg) :: r) pc ls (st) μ = (q_ref (q_lg ls 2) (fun z => q_vc fl ld Γ T rk Rt sk S n r nx ls (.inr (.inr z) :: st) μ)) := propext Iff.rfl
theorem v_aload3  : q_vc fl ld Γ T rk Rt sk S (n + 1) ((.aload_n 3, nx, tg) :: r) pc ls (st) μ = (q_ref (q_lg ls 3) (fun z => q_vc fl ld Γ T rk Rt sk S n r nx ls (.inr (.inr z) :: st) μ)) := propext Iff.rfl
theorem v_aload {i : Nat} : q_vc fl ld Γ T rk Rt sk S (n + 1) ((.aload i, nx, tg) :: r) pc ls (st) μ = (q_ref (q_lg ls i) (fun z => q_vc fl ld Γ T rk Rt sk S n r nx ls (.inr (.inr z) :: st) μ)) := propext Iff.rfl
theorem v_istore0 {z : Int} : q_vc fl ld Γ T rk Rt sk S (n + 1) ((.istore_n 0, nx, tg) :: r) pc ls (.inl z :: st) μ = (q_vc fl ld Γ T rk Rt sk S n r nx (q_l1 ls 0 (.inl z)) (st) μ) := propext Iff.rfl
theorem v_istore1 {z : Int} : q_vc fl ld Γ T rk Rt sk S (n + 1) ((.istore_n 1, nx, tg) :: r) pc ls (.inl z :: st) μ = (q_vc fl ld Γ T rk Rt sk S n r nx (q_l1 ls 1 (.inl z)) (st) μ) := propext Iff.rfl
theorem v_istore2 {z : Int} : q_vc fl ld Γ T rk Rt sk S (n + 1) ((.istore_n 2, nx, tg) :: r) pc ls (.inl z :: st) μ = (q_vc fl ld Γ T rk Rt sk S n r nx (q_l1 ls 2 (.inl z)) (st) μ) := propext Iff.rfl
theorem v_istore3 {z : Int} : q_vc fl ld Γ T rk Rt sk S (n + 1) ((.istore_n 3, nx, tg) :: r) pc ls (.inl z :: st) μ = (q_vc fl ld Γ T rk Rt sk S n r nx (q_l1 ls 3 (.inl z)) (st) μ) := propext Iff.rfl
theorem v_istore {z : Int} {i : Nat} : q_vc fl ld Γ T rk Rt sk S (n + 1) ((.istore i, nx, tg) :: r) pc ls (.inl z :: st) μ = (q_vc fl ld Γ T rk Rt sk S n r nx (q_l1 ls i (.inl z)) (st) μ) := propext Iff.rfl
theorem v_lstore0 {z : Int} : q_vc fl ld Γ T rk Rt sk S (n + 1) ((.lstore_n 0, nx, tg) :: r) pc ls (.inr (.inl z) :: st) μ = (q_vc fl ld Γ T rk Rt sk S n r nx (q_l2 ls 0 (.inr (.inl z))) (st) μ) := propext Iff.rfl
theorem v_lstore1 {z : Int} : q_vc fl ld Γ T rk Rt sk S (n + 1) ((.lstore_n 1, nx, tg) :: r) pc ls (.inr (.inl z) :: st) μ = (q_vc fl ld Γ T rk Rt sk S n r nx (q_l2 ls 1 (.inr (.inl z))) (st) μ) := propext Iff.rfl
theorem v_lstore2 {z : Int} : q_vc fl ld Γ T rk Rt sk S (n + 1) ((.lstore_n 2, nx, tg) :: r) pc ls (.inr (.inl z) :: st) μ = (q_vc fl ld Γ T rk Rt sk S n r nx (q_l2 ls 2 (.inr (.inl z))) (st) μ) := propext Iff.rfl
theorem v_lstore3 {z : Int} : q_vc fl ld Γ T rk Rt sk S (n + 1) ((.lstore_n 3, nx, tg) :: r) pc ls (.inr (.inl z) :: st) μ = (q_vc fl ld Γ T rk Rt sk S n r nx (q_l2 ls 3 (.inr (.inl z))) (st) μ) := propext Iff.rfl
theorem v_lstore {z : Int} {i : Nat} : q_vc fl ld Γ T rk Rt sk S (n + 1) ((.lstore i, nx, tg) :: r) pc ls (.inr (.inl z) :: st) μ = (q_vc fl ld Γ T rk Rt sk S n r nx (q_l2 ls i (.inr (.inl z))) (st) μ) := propext Iff.rfl
theorem v_astore0 {z : Int} : q_vc fl ld Γ T rk Rt sk S (n + 1) ((.astore_n 0, nx, tg) :: r) pc ls (.inr (.inr z) :: st) μ = (0 ≤ z ∧ q_vc fl ld Γ T rk Rt sk S n r nx (q_l1 ls 0 (.inr (.inr z))) (st) μ) := propext Iff.rfl
theorem v_astore1 {z : Int} : q_vc fl ld Γ T rk Rt sk S (n + 1) ((.astore_n 1, nx, tg) :: r) pc ls (.inr (.inr z) :: st) μ = (0 ≤ z ∧ q_vc fl ld Γ T rk Rt sk S n r nx (q_l1 ls 1 (.inr (.inr z))) (st) μ) := propext Iff.rfl
theorem v_astore2 {z : Int} : q_vc fl ld Γ T rk Rt sk S (n + 1) ((.astore_n 2, nx, tg) :: r) pc ls (.inr (.inr z) :: st) μ = (0 ≤ z ∧ q_vc fl ld Γ T rk Rt sk S n r nx (q_l1 ls 2 (.inr (.inr z))) (st) μ) := propext Iff.rfl
theorem v_astore3 {z : Int} : q_vc fl ld Γ T rk Rt sk S (n + 1) ((.astore_n 3, nx, tg) :: r) pc ls (.inr (.inr z) :: st) μ = (0 ≤ z ∧ q_vc fl ld Γ T rk Rt sk S n r nx (q_l1 ls 3 (.inr (.inr z))) (st) μ) := propext Iff.rfl
theorem v_astore {z : Int} {i : Nat} : q_vc fl ld Γ T rk Rt sk S (n + 1) ((.astore i, nx, tg) :: r) pc ls (.inr (.inr z) :: st) μ = (0 ≤ z ∧ q_vc fl ld Γ T rk Rt sk S n r nx (q_l1 ls i (.inr (.inr z))) (st) μ) := propext Iff.rfl
theorem v_iinc {i : Nat} {v : Int} : q_vc fl ld Γ T rk Rt sk S (n + 1) ((.iinc i v, nx, tg) :: r) pc ls (st) μ = (q_int (q_lg ls i) (fun z => q_vc fl ld Γ T rk Rt sk S n r nx (q_l1 ls i (.inl (z + v))) (st) μ)) := propext Iff.rfl
theorem v_iadd {a b : Int} : q_vc fl ld Γ T rk Rt sk S (n + 1) ((.iadd, nx, tg) :: r) pc ls (.inl b :: .inl a :: st) μ = (q_vc fl ld Γ T rk Rt sk S n r nx ls (.inl (a + b) :: st) μ) := propext Iff.rfl
theorem v_isub {a b : Int} : q_vc fl ld Γ T rk Rt sk S (n + 1) ((.isub, nx, tg) :: r) pc ls (.inl b :: .inl a :: st) μ = (q_vc fl ld Γ T rk Rt sk S n r nx ls (.inl (a - b) :: st) μ) := propext Iff.rfl
theorem v_imul {a b : Int} : q_vc fl ld Γ T rk Rt sk S (n + 1) ((.imul, nx, tg) :: r) pc ls (.inl b :: .inl a :: st) μ = (q_vc fl ld Γ T rk Rt sk S n r nx ls (.inl (a * b) :: st) μ) := propext Iff.rfl
theorem v_iand {a b : Int} : q_vc fl ld Γ T rk Rt sk S (n + 1) ((.iand, nx, tg) :: r) pc ls (.inl b :: .inl a :: st) μ = (q_vc fl ld Γ T rk Rt sk S n r nx ls (.inl (q_and a b) :: st) μ) := propext Iff.rfl
theorem v_ior {a b : Int} : q_vc fl ld Γ T rk Rt sk S (n + 1) ((.ior, nx, tg) :: r) pc ls (.inl b :: .inl a :: st) μ = (q_vc fl ld Γ T rk Rt sk S n r nx ls (.inl (q_or a b) :: st) μ) := propext Iff.rfl
theorem v_ixor {a b : Int} : q_vc fl ld Γ T rk Rt sk S (n + 1) ((.ixor, nx, tg) :: r) pc ls (.inl b :: .inl a :: st) μ = (q_vc fl ld Γ T rk Rt sk S n r nx ls (.inl (q_xor a b) :: st) μ) := propext Iff.rfl
theorem v_ishl {a b : Int} : q_vc fl ld Γ T rk Rt sk S (n + 1) ((.ishl, nx, tg) :: r) pc ls (.inl b :: .inl a :: st) μ = (q_vc fl ld Γ T rk Rt sk S n r nx ls (.inl (q_shl a b) :: st) μ) := propext Iff.rfl
theorem v_ishr {a b : Int} : q_vc fl ld Γ T rk Rt sk S (n + 1) ((.ishr, nx, tg) :: r) pc ls (.inl b :: .inl a :: st) μ = (q_vc fl ld Γ T rk Rt sk S n r nx ls (.inl (q_shr a b) :: st) μ) := propext Iff.rfl
theorem v_iushr {a b : Int} : q_vc fl ld Γ T rk Rt sk S (n + 1) ((.iushr, nx, tg) :: r) pc ls (.inl b :: .inl a :: st) μ = (q_vc fl ld Γ T rk Rt sk S n r nx ls (.inl (q_ush a b) :: st) μ) := propext Iff.rfl
theorem v_ineg {a : Int} : q_vc fl ld Γ T rk Rt sk S (n + 1) ((.ineg, nx, tg) :: r) pc ls (.inl a :: st) μ = (q_vc fl ld Γ T rk Rt sk S n r nx ls (.inl (-a) :: st) μ) := propext Iff.rfl
theorem v_idiv {a b : Int} : q_vc fl ld Γ T rk Rt sk S (n + 1) ((.idiv, nx, tg) :: r) pc ls (.inl b :: .inl a :: st) μ = ((0 ≤ a ∧ a ≤ 2147483647 ∧ 0 < b ∧ b ≤ 2147483647) ∧ q_vc fl ld Γ T rk Rt sk S n r nx ls (.inl (a / b) :: st) μ) := propext Iff.rfl
theorem v_irem {a b : Int} : q_vc fl ld Γ T rk Rt sk S (n + 1) ((.irem, nx, tg) :: r) pc ls (.inl b :: .inl a :: st) μ = ((0 ≤ a ∧ a ≤ 2147483647 ∧ 0 < b ∧ b ≤ 2147483647) ∧ q_vc fl ld Γ T rk Rt sk S n r nx ls (.inl (a % b) :: st) μ) := propext Iff.rfl
theorem v_ladd {a b : Int} : q_vc fl ld Γ T rk Rt sk S (n + 1) ((.ladd, nx, tg) :: r) pc ls (.inr (.inl b) :: .inr (.inl a) :: st) μ = (q_vc fl ld Γ T rk Rt sk S n r nx ls (.inr (.inl (a + b)) :: st) μ) := propext Iff.rfl
theorem v_lsub {a b : Int} : q_vc fl ld Γ T rk Rt sk S (n + 1) ((.lsub, nx, tg) :: r) pc ls (.inr (.inl b) :: .inr (.inl a) :: st) μ = (q_vc fl ld Γ T rk Rt sk S n r nx ls (.inr (.inl (a - b)) :: st) μ) := propext Iff.rfl
theorem v_lmul {a b : Int} : q_vc fl ld Γ T rk Rt sk S (n + 1) ((.lmul, nx, tg) :: r) pc ls (.inr (.inl b) :: .inr (.inl a) :: st) μ = (q_vc fl ld Γ T rk Rt sk S n r nx ls (.inr (.inl (a * b)) :: st) μ) := propext Iff.rfl
theorem v_lcmp {a b : Int} : q_vc fl ld Γ T rk Rt sk S (n + 1) ((.lcmp, nx, tg) :: r) pc ls (.inr (.inl b) :: .inr (.inl a) :: st) μ = ((q_R a ∧ q_R b) ∧ q_vc fl ld Γ T rk Rt sk S n r nx ls (.inl (q_cmp a b) :: st) μ) := propext Iff.rfl
theorem v_i2l {a : Int} : q_vc fl ld Γ T rk Rt sk S (n + 1) ((.i2l, nx, tg) :: r) pc ls (.inl a :: st) μ = (q_r a ∧ q_vc fl ld Γ T rk Rt sk S n r nx ls (.inr (.inl a) :: st) μ) := propext Iff.rfl
theorem v_l2i {a : Int} : q_vc fl ld Γ T rk Rt sk S (n + 1) ((.l2i, nx, tg) :: r) pc ls (.inr (.inl a) :: st) μ = (q_vc fl ld Γ T rk Rt sk S n r nx ls (.inl a :: st) μ) := propext Iff.rfl
theorem v_i2c {a : Int} : q_vc fl ld Γ T rk Rt sk S (n + 1) ((.i2c, nx, tg) :: r) pc ls (.inl a :: st) μ = ((0 ≤ a ∧ a < 65536) ∧ q_vc fl ld Γ T rk Rt sk S n r nx ls (.inl a :: st) μ) := propext Iff.rfl
theorem v_dup {v : QV} : q_vc fl ld Γ T rk Rt sk S (n + 1) ((.dup, nx, tg) :: r) pc ls (v :: st) μ = (q_ct v = 1 ∧ q_vc fl ld Γ T rk Rt sk S n r nx ls (v :: v :: st) μ) := propext Iff.rfl
theorem v_dup2 {v w : QV} : q_vc fl ld Γ T rk Rt sk S (n + 1) ((.dup2, nx, tg) :: r) pc ls (v :: w :: st) μ = ((q_ct v = 1 ∧ q_ct w = 1) ∧ q_vc fl ld Γ T rk Rt sk S n r nx ls (v :: w :: v :: w :: st) μ) := propext Iff.rfl
theorem v_if_eq {a o x9 : Int} : q_vc fl ld Γ T rk Rt sk S (n + 1) ((.ifCond .eq o, nx, [(x9, t9)]) :: r) pc ls (.inl a :: st) μ = (q_r a ∧ (a = 0 → q_vc fl ld Γ T rk Rt sk S n [] t9 ls st μ) ∧ (¬ a = 0 → q_vc fl ld Γ T rk Rt sk S n r nx ls st μ)) := propext Iff.rfl
theorem v_if_ne {a o x9 : Int} : q_vc fl ld Γ T rk Rt sk S (n + 1) ((.ifCond .ne o, nx, [(x9, t9)]) :: r) pc ls (.inl a :: st) μ = (q_r a ∧ (¬ a = 0 → q_vc fl ld Γ T rk Rt sk S n [] t9 ls st μ) ∧ (a = 0 → q_vc fl ld Γ T rk Rt sk S n r nx ls st μ)) := propext Iff.rfl
theorem v_if_lt {a o x9 : Int} : q_vc fl ld Γ T rk Rt sk S (n + 1) ((.ifCond .lt o, nx, [(x9, t9)]) :: r) pc ls (.inl a :: st) μ = (q_r a ∧ (a < 0 → q_vc fl ld Γ T rk Rt sk S n [] t9 ls st μ) ∧ (¬ a < 0 → q_vc fl ld Γ T rk Rt sk S n r nx ls st μ)) := propext Iff.rfl
theorem v_if_ge {a o x9 : Int} : q_vc fl ld Γ T rk Rt sk S (n + 1) ((.ifCond .ge o, nx, [(x9, t9)]) :: r) pc ls (.inl a :: st) μ = (q_r a ∧ (0 ≤ a → q_vc fl ld Γ T rk Rt sk S n [] t9 ls st μ) ∧ (¬ 0 ≤ a → q_vc fl ld Γ T rk Rt sk S n r nx ls st μ)) := propext Iff.rfl
theorem v_if_gt {a o x9 : Int} : q_vc fl ld Γ T rk Rt sk S (n + 1) ((.ifCond .gt o, nx, [(x9, t9)]) :: r) pc ls (.inl a :: st) μ = (q_r a ∧ (0 < a → q_vc fl ld Γ T rk Rt sk S n [] t9 ls st μ) ∧ (¬ 0 < a → q_vc fl ld Γ T rk Rt sk S n r nx ls st μ)) := propext Iff.rfl
theorem v_if_le {a o x9 : Int} : q_vc fl ld Γ T rk Rt sk S (n + 1) ((.ifCond .le o, nx, [(x9, t9)]) :: r) pc ls (.inl a :: st) μ = (q_r a ∧ (a ≤ 0 → q_vc fl ld Γ T rk Rt sk S n [] t9 ls st μ) ∧ (¬ a ≤ 0 → q_vc fl ld Γ T rk Rt sk S n r nx ls st μ)) := propext Iff.rfl
theorem v_ic_eq {a b o x9 : Int} : q_vc fl ld Γ T rk Rt sk S (n + 1) ((.if_icmp .eq o, nx, [(x9, t9)]) :: r) pc ls (.inl b :: .inl a :: st) μ = ((q_r a ∧ q_r b) ∧ (a = b → q_vc fl ld Γ T rk Rt sk S n [] t9 ls st μ) ∧ (¬ a = b → q_vc fl ld Γ T rk Rt sk S n r nx ls st μ)) := propext Iff.rfl
theorem v_ic_ne {a b o x9 : Int} : q_vc fl ld Γ T rk Rt sk S (n + 1) ((.if_icmp .ne o, nx, [(x9, t9)]) :: r) pc ls (.inl b :: .inl a :: st) μ = ((q_r a ∧ q_r b) ∧ (¬ a = b → q_vc fl ld Γ T rk Rt sk S n [] t9 ls st μ) ∧ (a = b → q_vc fl ld Γ T rk Rt sk S n r nx ls st μ)) := propext Iff.rfl
theorem v_ic_lt {a b o x9 : Int} : q_vc fl ld Γ T rk Rt sk S (n + 1) ((.if_icmp .lt o, nx, [(x9, t9)]) :: r) pc ls (.inl b :: .inl a :: st) μ = ((q_r a ∧ q_r b) ∧ (a < b → q_vc fl ld Γ T rk Rt sk S n [] t9 ls st μ) ∧ (¬ a < b → q_vc fl ld Γ T rk Rt sk S n r nx ls st μ)) := propext Iff.rfl
theorem v_ic_ge {a b o x9 : Int} : q_vc fl ld Γ T rk Rt sk S (n + 1) ((.if_icmp .ge o, nx, [(x9, t9)]) :: r) pc ls (.inl b :: .inl a :: st) μ = ((q_r a ∧ q_r b) ∧ (b ≤ a → q_vc fl ld Γ T rk Rt sk S n [] t9 ls st μ) ∧ (¬ b ≤ a → q_vc fl ld Γ T rk Rt sk S n r nx ls st μ)) := propext Iff.rfl
theorem v_ic_gt {a b o x9 : Int} : q_vc fl ld Γ T rk Rt sk S (n + 1) ((.if_icmp .gt o, nx, [(x9, t9)]) :: r) pc ls (.inl b :: .inl a :: st) μ = ((q_r a ∧ q_r b) ∧ (b < a → q_vc fl ld Γ T rk Rt sk S n [] t9 ls st μ) ∧ (¬ b < a → q_vc fl ld Γ T rk Rt sk S n r nx ls st μ)) := propext Iff.rfl
theorem v_ic_le {a b o x9 : Int} : q_vc fl ld Γ T rk Rt sk S (n + 1) ((.if_icmp .le o, nx, [(x9, t9)]) :: r) pc ls (.inl b :: .inl a :: st) μ = ((q_r a ∧ q_r b) ∧ (a ≤ b → q_vc fl ld Γ T rk Rt sk S n [] t9 ls st μ) ∧ (¬ a ≤ b → q_vc fl ld Γ T rk Rt sk S n r nx ls st μ)) := propext Iff.rfl
theorem v_goto {o x9 : Int} : q_vc fl ld Γ T rk Rt sk S (n + 1) ((.goto o, nx, [(x9, t9)]) :: r) pc ls (st) μ = (q_vc fl ld Γ T rk Rt sk S n [] t9 ls st μ) := propext Iff.rfl
theorem v_tsw {a d lo hi : Int} {offs : Array Int} : q_vc fl ld Γ T rk Rt sk S (n + 1) ((.tableswitch d lo hi offs, nx, tg) :: r) pc ls (.inl a :: st) μ = (q_r a ∧ q_sw a (fun t => q_vc fl ld Γ T rk Rt sk S n [] t ls st μ) tg) := propext Iff.rfl
theorem v_lsw {a d : Int} {ps : Array (Int × Int)} : q_vc fl ld Γ T rk Rt sk S (n + 1) ((.lookupswitch d ps, nx, tg) :: r) pc ls (.inl a :: st) μ = (q_r a ∧ q_sw a (fun t => q_vc fl ld Γ T rk Rt sk S n [] t ls st μ) tg) := propext Iff.rfl
theorem v_ireturn {a : Int} : q_vc fl ld Γ T rk Rt sk S (n + 1) ((.ireturn, nx, tg) :: r) pc ls ([.inl a]) μ = (q_rk rk a ∧ Rt (some (.inl a)) μ) := propext Iff.rfl
theorem v_areturn {a : Int} : q_vc fl ld Γ T rk Rt sk S (n + 1) ((.areturn, nx, tg) :: r) pc ls ([.inr (.inr a)]) μ = (rk = 3 ∧ 0 ≤ a ∧ Rt (some (.inr (.inr a))) μ) := propext Iff.rfl
theorem v_return  : q_vc fl ld Γ T rk Rt sk S (n + 1) ((.return_, nx, tg) :: r) pc ls ([]) μ = (rk = 4 ∧ Rt none μ) := propext Iff.rfl
theorem v_getf {a : Int} {i : Nat} : q_vc fl ld Γ T rk Rt sk S (n + 1) ((.getfield i, nx, tg) :: r) pc ls (.inr (.inr a) :: st) μ = (q_fd (T a) (fl i).1 (fl i).2 (fun sk9 => q_vc fl ld Γ T rk Rt sk S n r nx ls (q_sv μ a (fl i).2 sk9 :: st) μ)) := propext Iff.rfl
theorem v_putf {a : Int} {v : QV} {i : Nat} : q_vc fl ld Γ T rk Rt sk S (n + 1) ((.putfield i, nx, tg) :: r) pc ls (v :: .inr (.inr a) :: st) μ = (q_fd (T a) (fl i).1 (fl i).2 (fun sk9 => q_pf sk9 v (fun z => q_vc fl ld Γ T rk Rt sk S n r nx ls (st) (q_up μ a (fl i).2 z)))) := propext Iff.rfl
theorem v_iaload {a i : Int} : q_vc fl ld Γ T rk Rt sk S (n + 1) ((.iaload, nx, tg) :: r) pc ls (.inl i :: .inr (.inr a) :: st) μ = (q_ar (T a) 0 i (q_vc fl ld Γ T rk Rt sk S n r nx ls (.inl (μ a i) :: st) μ)) := propext Iff.rfl
theorem v_laload {a i : Int} : q_vc fl ld Γ T rk Rt sk S (n + 1) ((.laload, nx, tg) :: r) pc ls (.inl i :: .inr (.inr a) :: st) μ = (q_ar (T a) 1 i (q_vc fl ld Γ T rk Rt sk S n r nx ls (.inr (.inl (μ a i)) :: st) μ)) := propext Iff.rfl
theorem v_baload {a i : Int} : q_vc fl ld Γ T rk Rt sk S (n + 1) ((.baload, nx, tg) :: r) pc ls (.inl i :: .inr (.inr a) :: st) μ = (q_ar (T a) 2 i (q_vc fl ld Γ T rk Rt sk S n r nx ls (.inl (μ a i) :: st) μ)) := propext Iff.rfl
theorem v_caload {a i : Int} : q_vc fl ld Γ T rk Rt sk S (n + 1) ((.caload, nx, tg) :: r) pc ls (.inl i :: .inr (.inr a) :: st) μ = (q_ar (T a) 3 i (q_vc fl ld Γ T rk Rt sk S n r nx ls (.inl (μ a i) :: st) μ)) := propext Iff.rfl
theorem v_aaload {a i : Int} : q_vc fl ld Γ T rk Rt sk S (n + 1) ((.aaload, nx, tg) :: r) pc ls (.inl i :: .inr (.inr a) :: st) μ = (q_aa (T a) i (fun b => 0 ≤ b ∧ q_vc fl ld Γ T rk Rt sk S n r nx ls (.inr (.inr b) :: st) μ)) := propext Iff.rfl
theorem v_iastore {a i v : Int} : q_vc fl ld Γ T rk Rt sk S (n + 1) ((.iastore, nx, tg) :: r) pc ls (.inl v :: .inl i :: .inr (.inr a) :: st) μ = (q_ar (T a) 0 i (q_vc fl ld Γ T rk Rt sk S n r nx ls (st) (q_up μ a i v))) := propext Iff.rfl
theorem v_lastore {a i v : Int} : q_vc fl ld Γ T rk Rt sk S (n + 1) ((.lastore, nx, tg) :: r) pc ls (.inr (.inl v) :: .inl i :: .inr (.inr a) :: st) μ = (q_ar (T a) 1 i (q_vc fl ld Γ T rk Rt sk S n r nx ls (st) (q_up μ a i v))) := propext Iff.rfl
theorem v_bastore {a i v : Int} : q_vc fl ld Γ T rk Rt sk S (n + 1) ((.bastore, nx, tg) :: r) pc ls (.inl v :: .inl i :: .inr (.inr a) :: st) μ = (q_ar (T a) 2 i ((v = 0 ∨ v = 1) ∧ q_vc fl ld Γ T rk Rt sk S n r nx ls (st) (q_up μ a i v))) := propext Iff.rfl
theorem v_castore {a i v : Int} : q_vc fl ld Γ T rk Rt sk S (n + 1) ((.castore, nx, tg) :: r) pc ls (.inl v :: .inl i :: .inr (.inr a) :: st) μ = (q_ar (T a) 3 i ((0 ≤ v ∧ v < 65536) ∧ q_vc fl ld Γ T rk Rt sk S n r nx ls (st) (q_up μ a i v))) := propext Iff.rfl
theorem v_alen {a : Int} : q_vc fl ld Γ T rk Rt sk S (n + 1) ((.arraylength, nx, tg) :: r) pc ls (.inr (.inr a) :: st) μ = (q_al (T a) (fun m9 => q_vc fl ld Γ T rk Rt sk S n r nx ls (.inl m9 :: st) μ)) := propext Iff.rfl
theorem v_invvi {i : Nat} : q_vc fl ld Γ T rk Rt sk S (n + 1) ((.invokevirtual i, nx, tg) :: r) pc ls (st) μ = (q_inv (Γ i) st μ (fun st9 μ9 => q_vc fl ld Γ T rk Rt sk S n r nx ls (st9) μ9)) := propext Iff.rfl
theorem v_invst {i : Nat} : q_vc fl ld Γ T rk Rt sk S (n + 1) ((.invokestatic i, nx, tg) :: r) pc ls (st) μ = (q_inv (Γ i) st μ (fun st9 μ9 => q_vc fl ld Γ T rk Rt sk S n r nx ls (st9) μ9)) := propext Iff.rfl
theorem v_invsp {i : Nat} : q_vc fl ld Γ T rk Rt sk S (n + 1) ((.invokespecial i, nx, tg) :: r) pc ls (st) μ = (q_inv (Γ i) st μ (fun st9 μ9 => q_vc fl ld Γ T rk Rt sk S n r nx ls (st9) μ9)) := propext Iff.rfl
end QV8
theorem e_int (z : Int) (f : Int → Prop) : q_int (some (.inl z)) f = f z := id rfl
theorem e_lng (z : Int) (f : Int → Prop) : q_lng (some (.inr (.inl z))) f = f z := id rfl
theorem e_ref (z : Int) (f : Int → Prop) : q_ref (some (.inr (.inr z))) f = (0 ≤ z ∧ f z) := id rfl
theorem e_lg0 (x : Option QV) (t : QL) : q_lg (x :: t) 0 = x := id rfl
theorem e_lg1 (x0 x1 : Option QV) (t : QL) : q_lg (x0 :: x1 :: t) 1 = x1 := id rfl
theorem e_lg2 (x0 x1 x2 : Option QV) (t : QL) : q_lg (x0 :: x1 :: x2 :: t) 2 = x2 := id rfl
theorem e_lg3 (x0 x1 x2 x3 : Option QV) (t : QL) : q_lg (x0 :: x1 :: x2 :: x3 :: t) 3 = x3 := id rfl
theorem e_lg4 (x0 x1 x2 x3 x4 : Option QV) (t : QL) : q_lg (x0 :: x1 :: x2 :: x3 :: x4 :: t) 4 = x4 := id rfl
theorem e_lg5 (x0 x1 x2 x3 x4 x5 : Option QV) (t : QL) : q_lg (x0 :: x1 :: x2 :: x3 :: x4 :: x5 :: t) 5 = x5 := id rfl
theorem e_lg6 (x0 x1 x2 x3 x4 x5 x6 : Option QV) (t : QL) : q_lg (x0 :: x1 :: x2 :: x3 :: x4 :: x5 :: x6 :: t) 6 = x6 := id rfl
theorem e_lg7 (x0 x1 x2 x3 x4 x5 x6 x7 : Option QV) (t : QL) : q_lg (x0 :: x1 :: x2 :: x3 :: x4 :: x5 :: x6 :: x7 :: t) 7 = x7 := id rfl
theorem e_lg8 (x0 x1 x2 x3 x4 x5 x6 x7 x8 : Option QV) (t : QL) : q_lg (x0 :: x1 :: x2 :: x3 :: x4 :: x5 :: x6 :: x7 :: x8 :: t) 8 = x8 := id rfl
theorem e_lg9 (x0 x1 x2 x3 x4 x5 x6 x7 x8 x9 : Option QV) (t : QL) : q_lg (x0 :: x1 :: x2 :: x3 :: x4 :: x5 :: x6 :: x7 :: x8 :: x9 :: t) 9 = x9 := id rfl
theorem e_lg10 (x0 x1 x2 x3 x4 x5 x6 x7 x8 x9 x10 : Option QV) (t : QL) : q_lg (x0 :: x1 :: x2 :: x3 :: x4 :: x5 :: x6 :: x7 :: x8 :: x9 :: x10 :: t) 10 = x10 := id rfl
theorem e_lg11 (x0 x1 x2 x3 x4 x5 x6 x7 x8 x9 x10 x11 : Option QV) (t : QL) : q_lg (x0 :: x1 :: x2 :: x3 :: x4 :: x5 :: x6 :: x7 :: x8 :: x9 :: x10 :: x11 :: t) 11 = x11 := id rfl
theorem e_lg12 (x0 x1 x2 x3 x4 x5 x6 x7 x8 x9 x10 x11 x12 : Option QV) (t : QL) : q_lg (x0 :: x1 :: x2 :: x3 :: x4 :: x5 :: x6 :: x7 :: x8 :: x9 :: x10 :: x11 :: x12 :: t) 12 = x12 := id rfl
theorem e_lg13 (x0 x1 x2 x3 x4 x5 x6 x7 x8 x9 x10 x11 x12 x13 : Option QV) (t : QL) : q_lg (x0 :: x1 :: x2 :: x3 :: x4 :: x5 :: x6 :: x7 :: x8 :: x9 :: x10 :: x11 :: x12 :: x13 :: t) 13 = x13 := id rfl
theorem e_clrI (z : Int) : q_clr (some (.inl z)) = some (.inl z) := id rfl
theorem e_clrJ (z : Int) : q_clr (some (.inr (.inl z))) = none := id rfl
theorem e_clrP (z : Int) : q_clr (some (.inr (.inr z))) = some (.inr (.inr z)) := id rfl
theorem e_clrN : q_clr none = none := id rfl
theorem e_s0 (y : Option QV) (t : QL) (v : QV) : q_l1 (y :: t) 0 v = some v :: t := id rfl
theorem e_s1 (x0 y : Option QV) (t : QL) (v : QV) : q_l1 (x0 :: y :: t) 1 v = q_clr x0 :: some v :: t := id rfl
theorem e_s2 (x0 x1 y : Option QV) (t : QL) (v : QV) : q_l1 (x0 :: x1 :: y :: t) 2 v = x0 :: q_clr x1 :: some v :: t := id rfl
theorem e_s3 (x0 x1 x2 y : Option QV) (t : QL) (v : QV) : q_l1 (x0 :: x1 :: x2 :: y :: t) 3 v = x0 :: x1 :: q_clr x2 :: some v :: t := id rfl
theorem e_s4 (x0 x1 x2 x3 y : Option QV) (t : QL) (v : QV) : q_l1 (x0 :: x1 :: x2 :: x3 :: y :: t) 4 v = x0 :: x1 :: x2 :: q_clr x3 :: some v :: t := id rfl
theorem e_s5 (x0 x1 x2 x3 x4 y : Option QV) (t : QL) (v : QV) : q_l1 (x0 :: x1 :: x2 :: x3 :: x4 :: y :: t) 5 v = x0 :: x1 :: x2 :: x3 :: q_clr x4 :: some v :: t := id rfl
theorem e_s6 (x0 x1 x2 x3 x4 x5 y : Option QV) (t : QL) (v : QV) : q_l1 (x0 :: x1 :: x2 :: x3 :: x4 :: x5 :: y :: t) 6 v = x0 :: x1 :: x2 :: x3 :: x4 :: q_clr x5 :: some v :: t := id rfl
theorem e_s7 (x0 x1 x2 x3 x4 x5 x6 y : Option QV) (t : QL) (v : QV) : q_l1 (x0 :: x1 :: x2 :: x3 :: x4 :: x5 :: x6 :: y :: t) 7 v = x0 :: x1 :: x2 :: x3 :: x4 :: x5 :: q_clr x6 :: some v :: t := id rfl
theorem e_s8 (x0 x1 x2 x3 x4 x5 x6 x7 y : Option QV) (t : QL) (v : QV) : q_l1 (x0 :: x1 :: x2 :: x3 :: x4 :: x5 :: x6 :: x7 :: y :: t) 8 v = x0 :: x1 :: x2 :: x3 :: x4 :: x5 :: x6 :: q_clr x7 :: some v :: t := id rfl
theorem e_s9 (x0 x1 x2 x3 x4 x5 x6 x7 x8 y : Option QV) (t : QL) (v : QV) : q_l1 (x0 :: x1 :: x2 :: x3 :: x4 :: x5 :: x6 :: x7 :: x8 :: y :: t) 9 v = x0 :: x1 :: x2 :: x3 :: x4 :: x5 :: x6 :: x7 :: q_clr x8 :: some v :: t := id rfl
theorem e_s10 (x0 x1 x2 x3 x4 x5 x6 x7 x8 x9 y : Option QV) (t : QL) (v : QV) : q_l1 (x0 :: x1 :: x2 :: x3 :: x4 :: x5 :: x6 :: x7 :: x8 :: x9 :: y :: t) 10 v = x0 :: x1 :: x2 :: x3 :: x4 :: x5 :: x6 :: x7 :: x8 :: q_clr x9 :: some v :: t := id rfl
theorem e_s11 (x0 x1 x2 x3 x4 x5 x6 x7 x8 x9 x10 y : Option QV) (t : QL) (v : QV) : q_l1 (x0 :: x1 :: x2 :: x3 :: x4 :: x5 :: x6 :: x7 :: x8 :: x9 :: x10 :: y :: t) 11 v = x0 :: x1 :: x2 :: x3 :: x4 :: x5 :: x6 :: x7 :: x8 :: x9 :: q_clr x10 :: some v :: t := id rfl
theorem e_s12 (x0 x1 x2 x3 x4 x5 x6 x7 x8 x9 x10 x11 y : Option QV) (t : QL) (v : QV) : q_l1 (x0 :: x1 :: x2 :: x3 :: x4 :: x5 :: x6 :: x7 :: x8 :: x9 :: x10 :: x11 :: y :: t) 12 v = x0 :: x1 :: x2 :: x3 :: x4 :: x5 :: x6 :: x7 :: x8 :: x9 :: x10 :: q_clr x11 :: some v :: t := id rfl
theorem e_s13 (x0 x1 x2 x3 x4 x5 x6 x7 x8 x9 x10 x11 x12 y : Option QV) (t : QL) (v : QV) : q_l1 (x0 :: x1 :: x2 :: x3 :: x4 :: x5 :: x6 :: x7 :: x8 :: x9 :: x10 :: x11 :: x12 :: y :: t) 13 v = x0 :: x1 :: x2 :: x3 :: x4 :: x5 :: x6 :: x7 :: x8 :: x9 :: x10 :: x11 :: q_clr x12 :: some v :: t := id rfl
theorem e_t0 (y z : Option QV) (t : QL) (v : QV) : q_l2 (y :: z :: t) 0 v = some v :: none :: t := id rfl
theorem e_t1 (x0 y z : Option QV) (t : QL) (v : QV) : q_l2 (x0 :: y :: z :: t) 1 v = q_clr x0 :: some v :: none :: t := id rfl
theorem e_t2 (x0 x1 y z : Option QV) (t : QL) (v : QV) : q_l2 (x0 :: x1 :: y :: z :: t) 2 v = x0 :: q_clr x1 :: some v :: none :: t := id rfl
theorem e_t3 (x0 x1 x2 y z : Option QV) (t : QL) (v : QV) : q_l2 (x0 :: x1 :: x2 :: y :: z :: t) 3 v = x0 :: x1 :: q_clr x2 :: some v :: none :: t := id rfl
theorem e_t4 (x0 x1 x2 x3 y z : Option QV) (t : QL) (v : QV) : q_l2 (x0 :: x1 :: x2 :: x3 :: y :: z :: t) 4 v = x0 :: x1 :: x2 :: q_clr x3 :: some v :: none :: t := id rfl
theorem e_t5 (x0 x1 x2 x3 x4 y z : Option QV) (t : QL) (v : QV) : q_l2 (x0 :: x1 :: x2 :: x3 :: x4 :: y :: z :: t) 5 v = x0 :: x1 :: x2 :: x3 :: q_clr x4 :: some v :: none :: t := id rfl
theorem e_t6 (x0 x1 x2 x3 x4 x5 y z : Option QV) (t : QL) (v : QV) : q_l2 (x0 :: x1 :: x2 :: x3 :: x4 :: x5 :: y :: z :: t) 6 v = x0 :: x1 :: x2 :: x3 :: x4 :: q_clr x5 :: some v :: none :: t := id rfl
theorem e_t7 (x0 x1 x2 x3 x4 x5 x6 y z : Option QV) (t : QL) (v : QV) : q_l2 (x0 :: x1 :: x2 :: x3 :: x4 :: x5 :: x6 :: y :: z :: t) 7 v = x0 :: x1 :: x2 :: x3 :: x4 :: x5 :: q_clr x6 :: some v :: none :: t := id rfl
theorem e_t8 (x0 x1 x2 x3 x4 x5 x6 x7 y z : Option QV) (t : QL) (v : QV) : q_l2 (x0 :: x1 :: x2 :: x3 :: x4 :: x5 :: x6 :: x7 :: y :: z :: t) 8 v = x0 :: x1 :: x2 :: x3 :: x4 :: x5 :: x6 :: q_clr x7 :: some v :: none :: t := id rfl
theorem e_t9 (x0 x1 x2 x3 x4 x5 x6 x7 x8 y z : Option QV) (t : QL) (v : QV) : q_l2 (x0 :: x1 :: x2 :: x3 :: x4 :: x5 :: x6 :: x7 :: x8 :: y :: z :: t) 9 v = x0 :: x1 :: x2 :: x3 :: x4 :: x5 :: x6 :: x7 :: q_clr x8 :: some v :: none :: t := id rfl
theorem e_t10 (x0 x1 x2 x3 x4 x5 x6 x7 x8 x9 y z : Option QV) (t : QL) (v : QV) : q_l2 (x0 :: x1 :: x2 :: x3 :: x4 :: x5 :: x6 :: x7 :: x8 :: x9 :: y :: z :: t) 10 v = x0 :: x1 :: x2 :: x3 :: x4 :: x5 :: x6 :: x7 :: x8 :: q_clr x9 :: some v :: none :: t := id rfl
theorem e_t11 (x0 x1 x2 x3 x4 x5 x6 x7 x8 x9 x10 y z : Option QV) (t : QL) (v : QV) : q_l2 (x0 :: x1 :: x2 :: x3 :: x4 :: x5 :: x6 :: x7 :: x8 :: x9 :: x10 :: y :: z :: t) 11 v = x0 :: x1 :: x2 :: x3 :: x4 :: x5 :: x6 :: x7 :: x8 :: x9 :: q_clr x10 :: some v :: none :: t := id rfl
theorem e_t12 (x0 x1 x2 x3 x4 x5 x6 x7 x8 x9 x10 x11 y z : Option QV) (t : QL) (v : QV) : q_l2 (x0 :: x1 :: x2 :: x3 :: x4 :: x5 :: x6 :: x7 :: x8 :: x9 :: x10 :: x11 :: y :: z :: t) 12 v = x0 :: x1 :: x2 :: x3 :: x4 :: x5 :: x6 :: x7 :: x8 :: x9 :: x10 :: q_clr x11 :: some v :: none :: t := id rfl
theorem e_t13 (x0 x1 x2 x3 x4 x5 x6 x7 x8 x9 x10 x11 x12 y z : Option QV) (t : QL) (v : QV) : q_l2 (x0 :: x1 :: x2 :: x3 :: x4 :: x5 :: x6 :: x7 :: x8 :: x9 :: x10 :: x11 :: x12 :: y :: z :: t) 13 v = x0 :: x1 :: x2 :: x3 :: x4 :: x5 :: x6 :: x7 :: x8 :: x9 :: x10 :: x11 :: q_clr x12 :: some v :: none :: t := id rfl
def q_kk (o : Option QK) (f : QK → Prop) : Prop := match o with
  | some sk => f sk
  | none => False
theorem e_fd (cj : Nat) (ks : List QK) (ci k : Nat) (f : QK → Prop) : q_fd (some (.inl (cj, ks))) ci k f = (ci = cj ∧ q_kk ks[k]? f) := by show (ci = cj ∧ (match ks[k]? with | some sk => f sk | none => False)) = _; unfold q_kk; cases ks[k]? <;> rfl
theorem e_kk (sk : QK) (f : QK → Prop) : q_kk (some sk) f = f sk := id rfl
theorem e_k0 (x : QK) (t : List QK) : (x :: t)[0]? = some x := id rfl
theorem e_k1 (x0 x1 : QK) (t : List QK) : (x0 :: x1 :: t)[1]? = some x1 := id rfl
theorem e_k2 (x0 x1 x2 : QK) (t : List QK) : (x0 :: x1 :: x2 :: t)[2]? = some x2 := id rfl
theorem e_k3 (x0 x1 x2 x3 : QK) (t : List QK) : (x0 :: x1 :: x2 :: x3 :: t)[3]? = some x3 := id rfl
theorem e_k4 (x0 x1 x2 x3 x4 : QK) (t : List QK) : (x0 :: x1 :: x2 :: x3 :: x4 :: t)[4]? = some x4 := id rfl
theorem e_k5 (x0 x1 x2 x3 x4 x5 : QK) (t : List QK) : (x0 :: x1 :: x2 :: x3 :: x4 :: x5 :: t)[5]? = some x5 := id rfl
theorem e_k6 (x0 x1 x2 x3 x4 x5 x6 : QK) (t : List QK) : (x0 :: x1 :: x2 :: x3 :: x4 :: x5 :: x6 :: t)[6]? = some x6 := id rfl
theorem e_k7 (x0 x1 x2 x3 x4 x5 x6 x7 : QK) (t : List QK) : (x0 :: x1 :: x2 :: x3 :: x4 :: x5 :: x6 :: x7 :: t)[7]? = some x7 := id rfl
theorem e_k8 (x0 x1 x2 x3 x4 x5 x6 x7 x8 : QK) (t : List QK) : (x0 :: x1 :: x2 :: x3 :: x4 :: x5 :: x6 :: x7 :: x8 :: t)[8]? = some x8 := id rfl
theorem e_k9 (x0 x1 x2 x3 x4 x5 x6 x7 x8 x9 : QK) (t : List QK) : (x0 :: x1 :: x2 :: x3 :: x4 :: x5 :: x6 :: x7 :: x8 :: x9 :: t)[9]? = some x9 := id rfl
theorem e_sv0 (μ : QM) (a : Int) (k : Nat) : q_sv μ a k (.inl 0) = .inl (μ a k) := id rfl
theorem e_sv1 (μ : QM) (a : Int) (k : Nat) : q_sv μ a k (.inl 1) = .inr (.inl (μ a k)) := id rfl
theorem e_sv2 (μ : QM) (a : Int) (k : Nat) : q_sv μ a k (.inl 2) = .inl (μ a k) := id rfl
theorem e_sv3 (μ : QM) (a : Int) (k : Nat) : q_sv μ a k (.inl 3) = .inr (.inr (μ a k)) := id rfl
theorem e_svc (μ : QM) (a : Int) (k : Nat) (m : Int) : q_sv μ a k (.inr m) = .inr (.inr m) := id rfl
theorem e_pf0 (z : Int) (f : Int → Prop) : q_pf (.inl 0) (.inl z) f = f z := id rfl
theorem e_pf1 (z : Int) (f : Int → Prop) : q_pf (.inl 1) (.inr (.inl z)) f = f z := id rfl
theorem e_pf2 (z : Int) (f : Int → Prop) : q_pf (.inl 2) (.inl z) f = ((z = 0 ∨ z = 1) ∧ f z) := id rfl
theorem e_pf3 (z : Int) (f : Int → Prop) : q_pf (.inl 3) (.inr (.inr z)) f = f z := id rfl
theorem e_ar (u n t : Nat) (i : Int) (f : Prop) : q_ar (some (.inr (.inl u, n))) t i f = (t = u ∧ n ≤ 2147483647 ∧ 0 ≤ i ∧ i < (n : Int) ∧ f) := id rfl
theorem e_aa (t n : Nat) (b i : Int) (f : Int → Prop) : q_aa (some (.inr (.inr (t, b), n))) i f = ((t = 4 ∨ t = 5) ∧ n ≤ 2147483647 ∧ 0 ≤ i ∧ i < (n : Int) ∧ f (b + i)) := id rfl
theorem e_al (u n : Nat) (f : Int → Prop) : q_al (some (.inr (.inl u, n))) f = (u ≤ 5 ∧ f (n : Int)) := id rfl
theorem e_sw1 (a v : Int) (g : Nat → Prop) (t : Nat) : q_sw a g [(v, t)] = g t := id rfl
theorem e_sw2 (a v : Int) (g : Nat → Prop) (t : Nat) (q : Int × Nat) (r : List (Int × Nat)) : q_sw a g ((v, t) :: q :: r) = ((a = v → g t) ∧ (¬ a = v → q_sw a g (q :: r))) := id rfl
theorem e_ct0 (z : Int) : q_ct (.inl z) = 1 := id rfl
theorem e_ct1 (z : Int) : q_ct (.inr (.inl z)) = 2 := id rfl
theorem e_ct2 (z : Int) : q_ct (.inr (.inr z)) = 1 := id rfl
theorem e_cat0 : q_cats [] = 0 := id rfl
theorem e_cat1 (v : QV) (st : List QV) : q_cats (v :: st) = q_ct v + q_cats st := by simp [q_cats]
theorem e_rk0 (a : Int) : q_rk 0 a = True := id rfl
theorem e_rk1 (a : Int) : q_rk 1 a = (a = 0 ∨ a = 1) := id rfl
theorem e_rk2 (a : Int) : q_rk 2 a = (0 ≤ a ∧ a < 65536) := id rfl
theorem e_inv0 (sp : QP) (st : List QV) (μ : QM) (f : List QV → QM → Prop) : q_inv (0, sp) (st) μ f = (q_cats st ≤ 8 ∧ sp [] μ (fun o μ9 => f (o.toList ++ st) μ9)) := by simp [q_inv]
theorem e_inv1 (sp : QP) (a0 : QV) (st : List QV) (μ : QM) (f : List QV → QM → Prop) : q_inv (1, sp) (a0 :: st) μ f = (q_cats st ≤ 8 ∧ sp [a0] μ (fun o μ9 => f (o.toList ++ st) μ9)) := by simp [q_inv]
theorem e_inv2 (sp : QP) (a0 a1 : QV) (st : List QV) (μ : QM) (f : List QV → QM → Prop) : q_inv (2, sp) (a0 :: a1 :: st) μ f = (q_cats st ≤ 8 ∧ sp [a0, a1] μ (fun o μ9 => f (o.toList ++ st) μ9)) := by simp [q_inv]
theorem e_inv3 (sp : QP) (a0 a1 a2 : QV) (st : List QV) (μ : QM) (f : List QV → QM → Prop) : q_inv (3, sp) (a0 :: a1 :: a2 :: st) μ f = (q_cats st ≤ 8 ∧ sp [a0, a1, a2] μ (fun o μ9 => f (o.toList ++ st) μ9)) := by simp [q_inv]
theorem e_inv4 (sp : QP) (a0 a1 a2 a3 : QV) (st : List QV) (μ : QM) (f : List QV → QM → Prop) : q_inv (4, sp) (a0 :: a1 :: a2 :: a3 :: st) μ f = (q_cats st ≤ 8 ∧ sp [a0, a1, a2, a3] μ (fun o μ9 => f (o.toList ++ st) μ9)) := by simp [q_inv]
theorem e_inv5 (sp : QP) (a0 a1 a2 a3 a4 : QV) (st : List QV) (μ : QM) (f : List QV → QM → Prop) : q_inv (5, sp) (a0 :: a1 :: a2 :: a3 :: a4 :: st) μ f = (q_cats st ≤ 8 ∧ sp [a0, a1, a2, a3, a4] μ (fun o μ9 => f (o.toList ++ st) μ9)) := by simp [q_inv]
theorem e_inv6 (sp : QP) (a0 a1 a2 a3 a4 a5 : QV) (st : List QV) (μ : QM) (f : List QV → QM → Prop) : q_inv (6, sp) (a0 :: a1 :: a2 :: a3 :: a4 :: a5 :: st) μ f = (q_cats st ≤ 8 ∧ sp [a0, a1, a2, a3, a4, a5] μ (fun o μ9 => f (o.toList ++ st) μ9)) := by simp [q_inv]
theorem e_o0 (st : List QV) : (none : Option QV).toList ++ st = st := id rfl
theorem e_o1 (v : QV) (st : List QV) : (some v).toList ++ st = v :: st := id rfl
theorem e_cl (a b : Int) : (q_cmp a b < 0) = (a < b) := by unfold q_cmp; split <;> (try split) <;> simp <;> omega
theorem e_cle (a b : Int) : (q_cmp a b ≤ 0) = (a ≤ b) := by unfold q_cmp; split <;> (try split) <;> simp <;> omega
theorem e_cg (a b : Int) : (0 < q_cmp a b) = (b < a) := by unfold q_cmp; split <;> (try split) <;> simp <;> omega
theorem e_cge (a b : Int) : (0 ≤ q_cmp a b) = (b ≤ a) := by unfold q_cmp; split <;> (try split) <;> simp <;> omega
theorem e_ce (a b : Int) : (q_cmp a b = 0) = (a = b) := by unfold q_cmp; split <;> (try split) <;> simp <;> omega
theorem e_cr1 (a b : Int) : (-2147483648 ≤ q_cmp a b) = True := by unfold q_cmp; split <;> (try split) <;> simp
theorem e_cr2 (a b : Int) : (q_cmp a b ≤ 2147483647) = True := by unfold q_cmp; split <;> (try split) <;> simp
theorem e_r (a : Int) : q_r a = (-2147483648 ≤ a ∧ a ≤ 2147483647) := id rfl
theorem e_R (a : Int) : q_R a = (-9223372036854775808 ≤ a ∧ a ≤ 9223372036854775807) := id rfl
theorem e_up (μ : QM) (a k z : Int) : q_up μ a k z a k = z := by simp [q_up]
theorem u_ne {μ : QM} {a k z b j : Int} (h : ¬ (b = a ∧ j = k)) : q_up μ a k z b j = μ b j := if_neg h
theorem u_na {μ : QM} {a k z b j : Int} (h : ¬ b = a) : q_up μ a k z b j = μ b j := u_ne (fun q => h q.1)
theorem u_nk {μ : QM} {a k z b j : Int} (h : ¬ j = k) : q_up μ a k z b j = μ b j := u_ne (fun q => h q.2)
def q_look : List (Nat × Option (List QE)) → Nat → Option (List QE)
  | [], _ => none
  | (k, b) :: t, pc => if pc = k then b else q_look t pc
def q_skok (cc : ByteArray) (nL : Nat) (u : QU) : List (Nat × Option (List QE)) → Bool
  | [] => true
  | (k, none) :: t => q_skok cc nL u t
  | (k, some b) :: t => q_ok cc nL u k b && q_skok cc nL u t
theorem q_skS {cc : ByteArray} {nL : Nat} {u : QU} : ∀ (L : List (Nat × Option (List QE))), q_skok cc nL u L = true → ∀ (pc : Nat) (b : List QE), q_look L pc = some b → q_ok cc nL u pc b = true
  | [], _, _, _, h => by cases h
  | (k, none) :: t, ho, pc, b, h => by
    unfold q_look at h
    split at h
    · cases h
    · exact q_skS t ho pc b h
  | (k, some x) :: t, ho, pc, b, h => by
    have ho : q_ok cc nL u k x = true ∧ q_skok cc nL u t = true := by simpa [q_skok] using ho
    unfold q_look at h
    split at h
    · rename_i e
      cases h
      rw [e]
      exact ho.1
    · exact q_skS t ho.2 pc b h
end
section
def q_TL : List (Option QS) := [some (.inl (10, [.inr 1, .inr 2, .inr 13, .inr 15, .inr 20, .inl 3, .inl 3, .inl 0, .inl 0])),
  some (.inl (0, [.inl 0, .inl 0, .inl 0])),
  some (.inl (5, [.inr 3, .inr 8, .inr 12])),
  some (.inr (.inr (5, 4), 4)),
  some (.inr (.inl 0, 196)),
  some (.inr (.inl 0, 196)),
  some (.inr (.inl 0, 196)),
  some (.inr (.inl 0, 196)),
  some (.inr (.inr (5, 9), 3)),
  some (.inr (.inl 0, 784)),
  some (.inr (.inl 0, 784)),
  some (.inr (.inl 0, 784)),
  some (.inr (.inl 2, 3)),
  some (.inl (7, [.inr 14, .inl 0])),
  some (.inr (.inl 3, 300)),
  some (.inl (3, [.inr 16, .inl 3])),
  some (.inl (8, [.inr 13, .inr 17, .inr 18, .inr 19, .inl 0, .inl 0])),
  some (.inr (.inl 0, 301)),
  some (.inr (.inl 0, 301)),
  some (.inr (.inl 0, 301)),
  some (.inl (9, [.inr 1, .inr 34, .inr 21, .inr 22, .inr 23, .inl 3, .inl 0])),
  some (.inr (.inl 0, 10)),
  some (.inr (.inl 0, 10)),
  some (.inr (.inr (5, 24), 10)),
  some (.inr (.inl 0, 196)),
  some (.inr (.inl 0, 196)),
  some (.inr (.inl 0, 196)),
  some (.inr (.inl 0, 196)),
  some (.inr (.inl 0, 196)),
  some (.inr (.inl 0, 196)),
  some (.inr (.inl 0, 196)),
  some (.inr (.inl 0, 196)),
  some (.inr (.inl 0, 196)),
  some (.inr (.inl 0, 196)),
  some (.inl (1, [.inr 1, .inr 2, .inr 23, .inr 35, .inr 36, .inr 37, .inr 38])),
  some (.inl (6, [.inl 1, .inl 0, .inl 0, .inl 0])),
  some (.inr (.inl 0, 4)),
  some (.inr (.inl 0, 196)),
  some (.inr (.inl 2, 196)),
  some (.inl (2, [.inr 40, .inr 41, .inl 0])),
  some (.inr (.inr (4, 42), 10)),
  some (.inr (.inl 0, 26)),
  some (.inl (4, [.inr 52, .inl 0, .inl 0, .inl 0, .inl 0])),
  some (.inl (4, [.inr 53, .inl 0, .inl 0, .inl 0, .inl 0])),
  some (.inl (4, [.inr 54, .inl 0, .inl 0, .inl 0, .inl 0])),
  some (.inl (4, [.inr 55, .inl 0, .inl 0, .inl 0, .inl 0])),
  some (.inl (4, [.inr 56, .inl 0, .inl 0, .inl 0, .inl 0])),
  some (.inl (4, [.inr 57, .inl 0, .inl 0, .inl 0, .inl 0])),
  some (.inl (4, [.inr 58, .inl 0, .inl 0, .inl 0, .inl 0])),
  some (.inl (4, [.inr 59, .inl 0, .inl 0, .inl 0, .inl 0])),
  some (.inl (4, [.inr 60, .inl 0, .inl 0, .inl 0, .inl 0])),
  some (.inl (4, [.inr 61, .inl 0, .inl 0, .inl 0, .inl 0])),
  some (.inr (.inl 0, 3)),
  some (.inr (.inl 0, 3)),
  some (.inr (.inl 0, 3)),
  some (.inr (.inl 0, 3)),
  some (.inr (.inl 0, 3)),
  some (.inr (.inl 0, 3)),
  some (.inr (.inl 0, 3)),
  some (.inr (.inl 0, 3)),
  some (.inr (.inl 0, 3)),
  some (.inr (.inl 0, 3)),
  some (.inl (2, [.inr 63, .inr 64, .inl 0])),
  some (.inr (.inr (4, 65), 10)),
  some (.inr (.inl 0, 26)),
  some (.inl (4, [.inr 75, .inl 0, .inl 0, .inl 0, .inl 0])),
  some (.inl (4, [.inr 76, .inl 0, .inl 0, .inl 0, .inl 0])),
  some (.inl (4, [.inr 77, .inl 0, .inl 0, .inl 0, .inl 0])),
  some (.inl (4, [.inr 78, .inl 0, .inl 0, .inl 0, .inl 0])),
  some (.inl (4, [.inr 79, .inl 0, .inl 0, .inl 0, .inl 0])),
  some (.inl (4, [.inr 80, .inl 0, .inl 0, .inl 0, .inl 0])),
  some (.inl (4, [.inr 81, .inl 0, .inl 0, .inl 0, .inl 0])),
  some (.inl (4, [.inr 82, .inl 0, .inl 0, .inl 0, .inl 0])),
  some (.inl (4, [.inr 83, .inl 0, .inl 0, .inl 0, .inl 0])),
  some (.inl (4, [.inr 84, .inl 0, .inl 0, .inl 0, .inl 0])),
  some (.inr (.inl 0, 3)),
  some (.inr (.inl 0, 3)),
  some (.inr (.inl 0, 3)),
  some (.inr (.inl 0, 3)),
  some (.inr (.inl 0, 3)),
  some (.inr (.inl 0, 3)),
  some (.inr (.inl 0, 3)),
  some (.inr (.inl 0, 3)),
  some (.inr (.inl 0, 3)),
  some (.inr (.inl 0, 3)),
  some (.inl (11, [.inl 0, .inl 0, .inl 0, .inl 0, .inr 86, .inr 87, .inr 88, .inl 0, .inr 89, .inr 90, .inr 91, .inr 92, .inr 93, .inr 94, .inl 0, .inr 95, .inr 96, .inl 0, .inl 1, .inl 1, .inl 1, .inr 97, .inr 98, .inl 0, .inr 99, .inr 100, .inr 101, .inr 102, .inr 103, .inr 104, .inr 105, .inl 0, .inl 0, .inl 0, .inl 0, .inl 1, .inl 0, .inl 2])),
  some (.inr (.inl 0, 576)),
  some (.inr (.inl 0, 1728)),
  some (.inr (.inl 2, 3)),
  some (.inr (.inl 0, 10)),
  some (.inr (.inl 0, 10)),
  some (.inr (.inl 0, 10)),
  some (.inr (.inl 0, 30)),
  some (.inr (.inl 0, 10)),
  some (.inr (.inl 2, 90)),
  some (.inr (.inl 0, 100)),
  some (.inr (.inl 0, 1440)),
  some (.inr (.inl 1, 144)),
  some (.inr (.inl 0, 144)),
  some (.inr (.inl 0, 10)),
  some (.inr (.inl 0, 10)),
  some (.inr (.inl 0, 10)),
  some (.inr (.inl 0, 30)),
  some (.inr (.inl 0, 10)),
  some (.inr (.inl 0, 26)),
  some (.inr (.inl 0, 300))]
/-- what each name is -/
def q_T : Int → Option QS
  | .ofNat n => (q_TL[n]?).getD none
  | .negSucc _ => none
def q_N : List Int := (List.range 106).map Int.ofNat
theorem T_0 : q_T 0 = some (.inl (10, [.inr 1, .inr 2, .inr 13, .inr 15, .inr 20, .inl 3, .inl 3, .inl 0, .inl 0])) := id rfl
theorem T_1 : q_T 1 = some (.inl (0, [.inl 0, .inl 0, .inl 0])) := id rfl
theorem T_2 : q_T 2 = some (.inl (5, [.inr 3, .inr 8, .inr 12])) := id rfl
theorem T_3 : q_T 3 = some (.inr (.inr (5, 4), 4)) := id rfl
theorem T_4 : q_T 4 = some (.inr (.inl 0, 196)) := id rfl
theorem T_5 : q_T 5 = some (.inr (.inl 0, 196)) := id rfl
theorem T_6 : q_T 6 = some (.inr (.inl 0, 196)) := id rfl
theorem T_7 : q_T 7 = some (.inr (.inl 0, 196)) := id rfl
theorem T_8 : q_T 8 = some (.inr (.inr (5, 9), 3)) := id rfl
theorem T_9 : q_T 9 = some (.inr (.inl 0, 784)) := id rfl
theorem T_10 : q_T 10 = some (.inr (.inl 0, 784)) := id rfl
theorem T_11 : q_T 11 = some (.inr (.inl 0, 784)) := id rfl
theorem T_12 : q_T 12 = some (.inr (.inl 2, 3)) := id rfl
theorem T_13 : q_T 13 = some (.inl (7, [.inr 14, .inl 0])) := id rfl
theorem T_14 : q_T 14 = some (.inr (.inl 3, 300)) := id rfl
theorem T_15 : q_T 15 = some (.inl (3, [.inr 16, .inl 3])) := id rfl
theorem T_16 : q_T 16 = some (.inl (8, [.inr 13, .inr 17, .inr 18, .inr 19, .inl 0, .inl 0])) := id rfl
theorem T_17 : q_T 17 = some (.inr (.inl 0, 301)) := id rfl
theorem T_18 : q_T 18 = some (.inr (.inl 0, 301)) := id rfl
theorem T_19 : q_T 19 = some (.inr (.inl 0, 301)) := id rfl
theorem T_20 : q_T 20 = some (.inl (9, [.inr 1, .inr 34, .inr 21, .inr 22, .inr 23, .inl 3, .inl 0])) := id rfl
theorem T_21 : q_T 21 = some (.inr (.inl 0, 10)) := id rfl
theorem T_22 : q_T 22 = some (.inr (.inl 0, 10)) := id rfl
theorem T_23 : q_T 23 = some (.inr (.inr (5, 24), 10)) := id rfl
theorem T_24 : q_T 24 = some (.inr (.inl 0, 196)) := id rfl
theorem T_25 : q_T 25 = some (.inr (.inl 0, 196)) := id rfl
theorem T_26 : q_T 26 = some (.inr (.inl 0, 196)) := id rfl
theorem T_27 : q_T 27 = some (.inr (.inl 0, 196)) := id rfl
theorem T_28 : q_T 28 = some (.inr (.inl 0, 196)) := id rfl
theorem T_29 : q_T 29 = some (.inr (.inl 0, 196)) := id rfl
theorem T_30 : q_T 30 = some (.inr (.inl 0, 196)) := id rfl
theorem T_31 : q_T 31 = some (.inr (.inl 0, 196)) := id rfl
theorem T_32 : q_T 32 = some (.inr (.inl 0, 196)) := id rfl
theorem T_33 : q_T 33 = some (.inr (.inl 0, 196)) := id rfl
theorem T_34 : q_T 34 = some (.inl (1, [.inr 1, .inr 2, .inr 23, .inr 35, .inr 36, .inr 37, .inr 38])) := id rfl
theorem T_35 : q_T 35 = some (.inl (6, [.inl 1, .inl 0, .inl 0, .inl 0])) := id rfl
theorem T_36 : q_T 36 = some (.inr (.inl 0, 4)) := id rfl
theorem T_37 : q_T 37 = some (.inr (.inl 0, 196)) := id rfl
theorem T_38 : q_T 38 = some (.inr (.inl 2, 196)) := id rfl
theorem T_39 : q_T 39 = some (.inl (2, [.inr 40, .inr 41, .inl 0])) := id rfl
theorem T_40 : q_T 40 = some (.inr (.inr (4, 42), 10)) := id rfl
theorem T_41 : q_T 41 = some (.inr (.inl 0, 26)) := id rfl
theorem T_42 : q_T 42 = some (.inl (4, [.inr 52, .inl 0, .inl 0, .inl 0, .inl 0])) := id rfl
theorem T_43 : q_T 43 = some (.inl (4, [.inr 53, .inl 0, .inl 0, .inl 0, .inl 0])) := id rfl
theorem T_44 : q_T 44 = some (.inl (4, [.inr 54, .inl 0, .inl 0, .inl 0, .inl 0])) := id rfl
theorem T_45 : q_T 45 = some (.inl (4, [.inr 55, .inl 0, .inl 0, .inl 0, .inl 0])) := id rfl
theorem T_46 : q_T 46 = some (.inl (4, [.inr 56, .inl 0, .inl 0, .inl 0, .inl 0])) := id rfl
theorem T_47 : q_T 47 = some (.inl (4, [.inr 57, .inl 0, .inl 0, .inl 0, .inl 0])) := id rfl
theorem T_48 : q_T 48 = some (.inl (4, [.inr 58, .inl 0, .inl 0, .inl 0, .inl 0])) := id rfl
theorem T_49 : q_T 49 = some (.inl (4, [.inr 59, .inl 0, .inl 0, .inl 0, .inl 0])) := id rfl
theorem T_50 : q_T 50 = some (.inl (4, [.inr 60, .inl 0, .inl 0, .inl 0, .inl 0])) := id rfl
theorem T_51 : q_T 51 = some (.inl (4, [.inr 61, .inl 0, .inl 0, .inl 0, .inl 0])) := id rfl
theorem T_52 : q_T 52 = some (.inr (.inl 0, 3)) := id rfl
theorem T_53 : q_T 53 = some (.inr (.inl 0, 3)) := id rfl
theorem T_54 : q_T 54 = some (.inr (.inl 0, 3)) := id rfl
theorem T_55 : q_T 55 = some (.inr (.inl 0, 3)) := id rfl
theorem T_56 : q_T 56 = some (.inr (.inl 0, 3)) := id rfl
theorem T_57 : q_T 57 = some (.inr (.inl 0, 3)) := id rfl
theorem T_58 : q_T 58 = some (.inr (.inl 0, 3)) := id rfl
theorem T_59 : q_T 59 = some (.inr (.inl 0, 3)) := id rfl
theorem T_60 : q_T 60 = some (.inr (.inl 0, 3)) := id rfl
theorem T_61 : q_T 61 = some (.inr (.inl 0, 3)) := id rfl
theorem T_62 : q_T 62 = some (.inl (2, [.inr 63, .inr 64, .inl 0])) := id rfl
theorem T_63 : q_T 63 = some (.inr (.inr (4, 65), 10)) := id rfl
theorem T_64 : q_T 64 = some (.inr (.inl 0, 26)) := id rfl
theorem T_65 : q_T 65 = some (.inl (4, [.inr 75, .inl 0, .inl 0, .inl 0, .inl 0])) := id rfl
theorem T_66 : q_T 66 = some (.inl (4, [.inr 76, .inl 0, .inl 0, .inl 0, .inl 0])) := id rfl
theorem T_67 : q_T 67 = some (.inl (4, [.inr 77, .inl 0, .inl 0, .inl 0, .inl 0])) := id rfl
theorem T_68 : q_T 68 = some (.inl (4, [.inr 78, .inl 0, .inl 0, .inl 0, .inl 0])) := id rfl
theorem T_69 : q_T 69 = some (.inl (4, [.inr 79, .inl 0, .inl 0, .inl 0, .inl 0])) := id rfl
theorem T_70 : q_T 70 = some (.inl (4, [.inr 80, .inl 0, .inl 0, .inl 0, .inl 0])) := id rfl
theorem T_71 : q_T 71 = some (.inl (4, [.inr 81, .inl 0, .inl 0, .inl 0, .inl 0])) := id rfl
theorem T_72 : q_T 72 = some (.inl (4, [.inr 82, .inl 0, .inl 0, .inl 0, .inl 0])) := id rfl
theorem T_73 : q_T 73 = some (.inl (4, [.inr 83, .inl 0, .inl 0, .inl 0, .inl 0])) := id rfl
theorem T_74 : q_T 74 = some (.inl (4, [.inr 84, .inl 0, .inl 0, .inl 0, .inl 0])) := id rfl
theorem T_75 : q_T 75 = some (.inr (.inl 0, 3)) := id rfl
theorem T_76 : q_T 76 = some (.inr (.inl 0, 3)) := id rfl
theorem T_77 : q_T 77 = some (.inr (.inl 0, 3)) := id rfl
theorem T_78 : q_T 78 = some (.inr (.inl 0, 3)) := id rfl
theorem T_79 : q_T 79 = some (.inr (.inl 0, 3)) := id rfl
theorem T_80 : q_T 80 = some (.inr (.inl 0, 3)) := id rfl
theorem T_81 : q_T 81 = some (.inr (.inl 0, 3)) := id rfl
theorem T_82 : q_T 82 = some (.inr (.inl 0, 3)) := id rfl
theorem T_83 : q_T 83 = some (.inr (.inl 0, 3)) := id rfl
theorem T_84 : q_T 84 = some (.inr (.inl 0, 3)) := id rfl
theorem T_85 : q_T 85 = some (.inl (11, [.inl 0, .inl 0, .inl 0, .inl 0, .inr 86, .inr 87, .inr 88, .inl 0, .inr 89, .inr 90, .inr 91, .inr 92, .inr 93, .inr 94, .inl 0, .inr 95, .inr 96, .inl 0, .inl 1, .inl 1, .inl 1, .inr 97, .inr 98, .inl 0, .inr 99, .inr 100, .inr 101, .inr 102, .inr 103, .inr 104, .inr 105, .inl 0, .inl 0, .inl 0, .inl 0, .inl 1, .inl 0, .inl 2])) := id rfl
theorem T_86 : q_T 86 = some (.inr (.inl 0, 576)) := id rfl
theorem T_87 : q_T 87 = some (.inr (.inl 0, 1728)) := id rfl
theorem T_88 : q_T 88 = some (.inr (.inl 2, 3)) := id rfl
theorem T_89 : q_T 89 = some (.inr (.inl 0, 10)) := id rfl
theorem T_90 : q_T 90 = some (.inr (.inl 0, 10)) := id rfl
theorem T_91 : q_T 91 = some (.inr (.inl 0, 10)) := id rfl
theorem T_92 : q_T 92 = some (.inr (.inl 0, 30)) := id rfl
theorem T_93 : q_T 93 = some (.inr (.inl 0, 10)) := id rfl
theorem T_94 : q_T 94 = some (.inr (.inl 2, 90)) := id rfl
theorem T_95 : q_T 95 = some (.inr (.inl 0, 100)) := id rfl
theorem T_96 : q_T 96 = some (.inr (.inl 0, 1440)) := id rfl
theorem T_97 : q_T 97 = some (.inr (.inl 1, 144)) := id rfl
theorem T_98 : q_T 98 = some (.inr (.inl 0, 144)) := id rfl
theorem T_99 : q_T 99 = some (.inr (.inl 0, 10)) := id rfl
theorem T_100 : q_T 100 = some (.inr (.inl 0, 10)) := id rfl
theorem T_101 : q_T 101 = some (.inr (.inl 0, 10)) := id rfl
theorem T_102 : q_T 102 = some (.inr (.inl 0, 30)) := id rfl
theorem T_103 : q_T 103 = some (.inr (.inl 0, 10)) := id rfl
theorem T_104 : q_T 104 = some (.inr (.inl 0, 26)) := id rfl
theorem T_105 : q_T 105 = some (.inr (.inl 0, 300)) := id rfl
theorem T_cell {i : Int} (h0 : 0 ≤ i) (h1 : i < 4) : q_T (4 + i) = some (.inr (.inl 0, 196)) := by
  have h : i = 0 ∨ i = 1 ∨ i = 2 ∨ i = 3 := by omega
  rcases h with rfl | rfl | rfl | rfl <;> rfl
theorem T_img {i : Int} (h0 : 0 ≤ i) (h1 : i < 3) : q_T (9 + i) = some (.inr (.inl 0, 784)) := by
  have h : i = 0 ∨ i = 1 ∨ i = 2 := by omega
  rcases h with rfl | rfl | rfl <;> rfl
theorem T_val {i : Int} (h0 : 0 ≤ i) (h1 : i < 10) : q_T (24 + i) = some (.inr (.inl 0, 196)) := by
  have h : i = 0 ∨ i = 1 ∨ i = 2 ∨ i = 3 ∨ i = 4 ∨ i = 5 ∨ i = 6 ∨ i = 7 ∨ i = 8 ∨ i = 9 := by omega
  rcases h with rfl | rfl | rfl | rfl | rfl | rfl | rfl | rfl | rfl | rfl <;> rfl
abbrev q_pl (P : Int) : Prop := P = 39 ∨ P = 62
theorem T_plan {P : Int} (h : q_pl P) : q_T P = some (.inl (2, [.inr (P + 1), .inr (P + 2), .inl 0])) := by rcases h with rfl | rfl <;> rfl
theorem T_recs {P : Int} (h : q_pl P) : q_T (P + 1) = some (.inr (.inr (4, P + 3), 10)) := by rcases h with rfl | rfl <;> rfl
theorem T_bof {P : Int} (h : q_pl P) : q_T (P + 2) = some (.inr (.inl 0, 26)) := by rcases h with rfl | rfl <;> rfl
/-- the names of the recipes -/
abbrev q_rc (r : Int) : Prop := (42 ≤ r ∧ r ≤ 51) ∨ (65 ≤ r ∧ r ≤ 74)
theorem T_rec {r : Int} (h : q_rc r) : q_T r = some (.inl (4, [.inr (r + 10), .inl 0, .inl 0, .inl 0, .inl 0])) := by
  have h : r = 42 ∨ r = 43 ∨ r = 44 ∨ r = 45 ∨ r = 46 ∨ r = 47 ∨ r = 48 ∨ r = 49 ∨ r = 50 ∨ r = 51 ∨ r = 65 ∨ r = 66 ∨ r = 67 ∨ r = 68 ∨ r = 69 ∨ r = 70 ∨ r = 71 ∨ r = 72 ∨ r = 73 ∨ r = 74 := by omega
  rcases h with rfl | rfl | rfl | rfl | rfl | rfl | rfl | rfl | rfl | rfl | rfl | rfl | rfl | rfl | rfl | rfl | rfl | rfl | rfl | rfl <;> rfl
theorem T_nmd {r : Int} (h : q_rc r) : q_T (r + 10) = some (.inr (.inl 0, 3)) := by
  have h : r = 42 ∨ r = 43 ∨ r = 44 ∨ r = 45 ∨ r = 46 ∨ r = 47 ∨ r = 48 ∨ r = 49 ∨ r = 50 ∨ r = 51 ∨ r = 65 ∨ r = 66 ∨ r = 67 ∨ r = 68 ∨ r = 69 ∨ r = 70 ∨ r = 71 ∨ r = 72 ∨ r = 73 ∨ r = 74 := by omega
  rcases h with rfl | rfl | rfl | rfl | rfl | rfl | rfl | rfl | rfl | rfl | rfl | rfl | rfl | rfl | rfl | rfl | rfl | rfl | rfl | rfl <;> rfl
def q_ktb (sk : QK) (ty : FieldType) : Bool := match sk, ty with
  | .inl 0, .int => true
  | .inl 1, .long => true
  | .inl 2, .boolean => true
  | .inl 3, .object _ => true
  | .inl 3, .array _ => true
  | .inr _, _ => true
  | _, _ => false
theorem q_ktS {sk : QK} {ty : FieldType} (h : q_ktb sk ty = true) : q_kt sk ty := by
  unfold q_ktb at h
  split at h
  · rfl
  · rfl
  · rfl
  · exact Or.inl ⟨_, rfl⟩
  · exact Or.inr ⟨_, rfl⟩
  · trivial
  · cases h
def q_kokb (q : vw_C) (ks : List QK) : Bool := decide (ks.length = q.2.2) && (List.range ks.length).all (fun k => match ks[k]?, parseFieldDescriptor (q.2.1 k).2.2.1 with
  | some sk, some ty => q_ktb sk ty
  | _, _ => false)
theorem q_kokS {q : vw_C} {ks : List QK} (h : q_kokb q ks = true) : q_kok q ks := by
  simp only [q_kokb, Bool.and_eq_true, decide_eq_true_eq, List.all_eq_true, List.mem_range] at h
  refine ⟨h.1, fun k sk hk => ?_⟩
  have hl : k < ks.length := (List.getElem?_eq_some_iff.mp hk).1
  have h2 := h.2 k hl
  rw [hk] at h2
  cases hp : parseFieldDescriptor (q.2.1 k).2.2.1 with
  | none => rw [hp] at h2; cases h2
  | some ty => rw [hp] at h2; exact ⟨ty, rfl, q_ktS h2⟩
def q_shb : Option QS → Bool
  | some (.inl (ci, ks)) => match vwCl[ci]? with
    | some q => q_kokb q ks
    | none => true
  | _ => true
theorem q_TL_ok : q_TL.all q_shb = true := by decide +kernel
theorem q_wokT : q_wok q_T q_N := by
  refine ⟨fun i j a h1 h2 => ?_, fun a sh h => ?_, fun a ci ks q h hq => ?_⟩
  · unfold q_N at h1 h2
    rw [List.getElem?_map] at h1 h2
    cases e1 : (List.range 106)[i]? with
    | none => rw [e1] at h1; cases h1
    | some x =>
      cases e2 : (List.range 106)[j]? with
      | none => rw [e2] at h2; cases h2
      | some y =>
        rw [e1] at h1
        rw [e2] at h2
        obtain ⟨l1, g1⟩ := List.getElem?_eq_some_iff.mp e1
        obtain ⟨l2, g2⟩ := List.getElem?_eq_some_iff.mp e2
        rw [List.getElem_range] at g1 g2
        have h1 : Int.ofNat x = a := Option.some.inj h1
        have h2 : Int.ofNat y = a := Option.some.inj h2
        have h3 : x = y := Int.ofNat.inj (h1.trans h2.symm)
        omega
  · cases a with
    | negSucc n => cases h
    | ofNat n =>
      have h' : (q_TL[n]?).getD none = some sh := h
      have hn : n < 106 := by
        cases e : q_TL[n]? with
        | none => rw [e] at h'; cases h'
        | some x =>
          have := (List.getElem?_eq_some_iff.mp e).1
          exact this
      exact ⟨List.mem_map.mpr ⟨n, List.mem_range.mpr hn, rfl⟩, Int.natCast_nonneg n⟩
  · cases a with
    | negSucc n => cases h
    | ofNat n =>
      have h' : (q_TL[n]?).getD none = some (.inl (ci, ks)) := h
      cases e : q_TL[n]? with
      | none => rw [e] at h'; cases h'
      | some x =>
        rw [e] at h'
        have h' : x = some (.inl (ci, ks)) := h'
        have := List.all_eq_true.mp q_TL_ok x (List.mem_of_getElem? e)
        rw [h'] at this
        have this : (match vwCl[ci]? with | some q => q_kokb q ks | none => true) = true := this
        rw [hq] at this
        exact q_kokS this
end
section
def q_chk (own : String) (fl : Nat → Nat × Nat) (ld : Nat → QV) (u : QU) : Bool :=
  u.1.all (fun i => match vwCl[(fl i).1]? with
    | some q => decide ((fl i).2 < q.2.2) && decide (q.1 = (q.2.1 (fl i).2).1) && decide (Cond.fieldLink own i (q.2.1 (fl i).2).1 (q.2.1 (fl i).2).2.1 (q.2.1 (fl i).2).2.2.1 ∈ q_tb)
    | none => false) &&
  u.2.1.all (fun i => match vwCl[(fl i).1]? with
    | some q => !(q.2.1 (fl i).2).2.2.2
    | none => false) &&
  u.2.2.1.all (fun i => match ld i with
    | .inl z => decide (Cond.constant own i (Int32.ofInt z) ∈ q_tb)
    | .inr (.inl z) => decide (Cond.constantLong own i (Int64.ofInt z) ∈ q_tb)
    | _ => false)
theorem q_chkS {own : String} {fl : Nat → Nat × Nat} {ld : Nat → QV} {u : QU} (h : q_chk own fl ld u = true) : q_fok own fl u.1 ∧ q_fokP own fl u.2.1 ∧ q_ldk own ld u.2.2.1 := by
  simp only [q_chk, Bool.and_eq_true, List.all_eq_true] at h
  obtain ⟨⟨h1, h2⟩, h3⟩ := h
  refine ⟨fun i hi => ?_, fun i hi => ?_, fun i hi => ?_⟩
  · have := h1 i hi
    cases hq : vwCl[(fl i).1]? with
    | none => rw [hq] at this; cases this
    | some q =>
      rw [hq] at this
      simp only [Bool.and_eq_true, decide_eq_true_eq] at this
      exact ⟨q, rfl, this.1.1, this.1.2, this.2⟩
  · have := h2 i hi
    cases hq : vwCl[(fl i).1]? with
    | none => rw [hq] at this; cases this
    | some q =>
      rw [hq] at this
      exact ⟨q, rfl, by simpa using this⟩
  · have := h3 i hi
    rcases hq : ld i with z | z | z
    · rw [hq] at this; exact of_decide_eq_true this
    · rw [hq] at this; exact of_decide_eq_true this
    · rw [hq] at this; cases this

def fl_X0 : Nat → Nat × Nat := fun i => match i with
  | 15 => (0, 0)
  | 19 => (0, 1)
  | 22 => (0, 2)
  | _ => (99, 0)
def ld_X0 : Nat → QV := fun i => match i with
  | _ => .inl 0
theorem g_X0_15 {ld : Nat → QV} {Γ : Nat → Nat × QP} {rk : Nat} {Rt : Option QV → QM → Prop} {sk : Nat → Option (List QE)} {S : Nat → QL → List QV → QM → Prop} {n pc nx : Nat} {tg : List (Int × Nat)} {r : List QE} {ls : QL} {st : List QV} {μ : QM} : q_vc fl_X0 ld Γ q_T rk Rt sk S (n + 1) ((.getfield 15, nx, tg) :: r) pc ls (.inr (.inr 1) :: st) μ = q_vc fl_X0 ld Γ q_T rk Rt sk S n r nx ls (.inl (μ 1 0) :: st) μ := propext ⟨fun h => h.2, fun h => ⟨rfl, h⟩⟩
theorem p_X0_15 {ld : Nat → QV} {Γ : Nat → Nat × QP} {rk : Nat} {Rt : Option QV → QM → Prop} {sk : Nat → Option (List QE)} {S : Nat → QL → List QV → QM → Prop} {n pc nx : Nat} {tg : List (Int × Nat)} {r : List QE} {ls : QL} {st : List QV} {μ : QM} {z : Int} : q_vc fl_X0 ld Γ q_T rk Rt sk S (n + 1) ((.putfield 15, nx, tg) :: r) pc ls (.inl z :: .inr (.inr 1) :: st) μ = (q_vc fl_X0 ld Γ q_T rk Rt sk S n r nx ls st (q_up μ 1 0 z)) := propext ⟨fun h => h.2, fun h => ⟨rfl, h⟩⟩
theorem fl_X0_15 : fl_X0 15 = (0, 0) := id rfl
theorem g_X0_19 {ld : Nat → QV} {Γ : Nat → Nat × QP} {rk : Nat} {Rt : Option QV → QM → Prop} {sk : Nat → Option (List QE)} {S : Nat → QL → List QV → QM → Prop} {n pc nx : Nat} {tg : List (Int × Nat)} {r : List QE} {ls : QL} {st : List QV} {μ : QM} : q_vc fl_X0 ld Γ q_T rk Rt sk S (n + 1) ((.getfield 19, nx, tg) :: r) pc ls (.inr (.inr 1) :: st) μ = q_vc fl_X0 ld Γ q_T rk Rt sk S n r nx ls (.inl (μ 1 1) :: st) μ := propext ⟨fun h => h.2, fun h => ⟨rfl, h⟩⟩
theorem p_X0_19 {ld : Nat → QV} {Γ : Nat → Nat × QP} {rk : Nat} {Rt : Option QV → QM → Prop} {sk : Nat → Option (List QE)} {S : Nat → QL → List QV → QM → Prop} {n pc nx : Nat} {tg : List (Int × Nat)} {r : List QE} {ls : QL} {st : List QV} {μ : QM} {z : Int} : q_vc fl_X0 ld Γ q_T rk Rt sk S (n + 1) ((.putfield 19, nx, tg) :: r) pc ls (.inl z :: .inr (.inr 1) :: st) μ = (q_vc fl_X0 ld Γ q_T rk Rt sk S n r nx ls st (q_up μ 1 1 z)) := propext ⟨fun h => h.2, fun h => ⟨rfl, h⟩⟩
theorem fl_X0_19 : fl_X0 19 = (0, 1) := id rfl
theorem g_X0_22 {ld : Nat → QV} {Γ : Nat → Nat × QP} {rk : Nat} {Rt : Option QV → QM → Prop} {sk : Nat → Option (List QE)} {S : Nat → QL → List QV → QM → Prop} {n pc nx : Nat} {tg : List (Int × Nat)} {r : List QE} {ls : QL} {st : List QV} {μ : QM} : q_vc fl_X0 ld Γ q_T rk Rt sk S (n + 1) ((.getfield 22, nx, tg) :: r) pc ls (.inr (.inr 1) :: st) μ = q_vc fl_X0 ld Γ q_T rk Rt sk S n r nx ls (.inl (μ 1 2) :: st) μ := propext ⟨fun h => h.2, fun h => ⟨rfl, h⟩⟩
theorem p_X0_22 {ld : Nat → QV} {Γ : Nat → Nat × QP} {rk : Nat} {Rt : Option QV → QM → Prop} {sk : Nat → Option (List QE)} {S : Nat → QL → List QV → QM → Prop} {n pc nx : Nat} {tg : List (Int × Nat)} {r : List QE} {ls : QL} {st : List QV} {μ : QM} {z : Int} : q_vc fl_X0 ld Γ q_T rk Rt sk S (n + 1) ((.putfield 22, nx, tg) :: r) pc ls (.inl z :: .inr (.inr 1) :: st) μ = (q_vc fl_X0 ld Γ q_T rk Rt sk S n r nx ls st (q_up μ 1 2 z)) := propext ⟨fun h => h.2, fun h => ⟨rfl, h⟩⟩
theorem fl_X0_22 : fl_X0 22 = (0, 2) := id rfl
def fl_X1 : Nat → Nat × Nat := fun i => match i with
  | 12 => (1, 3)
  | 18 => (1, 4)
  | 22 => (1, 5)
  | 25 => (1, 6)
  | 29 => (1, 0)
  | 33 => (1, 1)
  | 37 => (1, 2)
  | 60 => (4, 2)
  | 74 => (4, 0)
  | 77 => (4, 3)
  | 92 => (5, 0)
  | 97 => (4, 4)
  | 117 => (0, 0)
  | 120 => (0, 1)
  | _ => (99, 0)
def ld_X1 : Nat → QV := fun i => match i with
  | 100 => .inl (-2000000000)
  | 145 => .inl (1000000001)
  | _ => .inl 0
theorem ld_X1_100 : ld_X1 100 = .inl (-2000000000) := id rfl
theorem ld_X1_145 : ld_X1 145 = .inl (1000000001) := id rfl
theorem g_X1_12 {ld : Nat → QV} {Γ : Nat → Nat × QP} {rk : Nat} {Rt : Option QV → QM → Prop} {sk : Nat → Option (List QE)} {S : Nat → QL → List QV → QM → Prop} {n pc nx : Nat} {tg : List (Int × Nat)} {r : List QE} {ls : QL} {st : List QV} {μ : QM} : q_vc fl_X1 ld Γ q_T rk Rt sk S (n + 1) ((.getfield 12, nx, tg) :: r) pc ls (.inr (.inr 34) :: st) μ = q_vc fl_X1 ld Γ q_T rk Rt sk S n r nx ls (.inr (.inr 35) :: st) μ := propext ⟨fun h => h.2, fun h => ⟨rfl, h⟩⟩
theorem fl_X1_12 : fl_X1 12 = (1, 3) := id rfl
theorem g_X1_18 {ld : Nat → QV} {Γ : Nat → Nat × QP} {rk : Nat} {Rt : Option QV → QM → Prop} {sk : Nat → Option (List QE)} {S : Nat → QL → List QV → QM → Prop} {n pc nx : Nat} {tg : List (Int × Nat)} {r : List QE} {ls : QL} {st : List QV} {μ : QM} : q_vc fl_X1 ld Γ q_T rk Rt sk S (n + 1) ((.getfield 18, nx, tg) :: r) pc ls (.inr (.inr 34) :: st) μ = q_vc fl_X1 ld Γ q_T rk Rt sk S n r nx ls (.inr (.inr 36) :: st) μ := propext ⟨fun h => h.2, fun h => ⟨rfl, h⟩⟩
theorem fl_X1_18 : fl_X1 18 = (1, 4) := id rfl
theorem g_X1_22 {ld : Nat → QV} {Γ : Nat → Nat × QP} {rk : Nat} {Rt : Option QV → QM → Prop} {sk : Nat → Option (List QE)} {S : Nat → QL → List QV → QM → Prop} {n pc nx : Nat} {tg : List (Int × Nat)} {r : List QE} {ls : QL} {st : List QV} {μ : QM} : q_vc fl_X1 ld Γ q_T rk Rt sk S (n + 1) ((.getfield 22, nx, tg) :: r) pc ls (.inr (.inr 34) :: st) μ = q_vc fl_X1 ld Γ q_T rk Rt sk S n r nx ls (.inr (.inr 37) :: st) μ := propext ⟨fun h => h.2, fun h => ⟨rfl, h⟩⟩
theorem fl_X1_22 : fl_X1 22 = (1, 5) := id rfl
theorem g_X1_25 {ld : Nat → QV} {Γ : Nat → Nat × QP} {rk : Nat} {Rt : Option QV → QM → Prop} {sk : Nat → Option (List QE)} {S : Nat → QL → List QV → QM → Prop} {n pc nx : Nat} {tg : List (Int × Nat)} {r : List QE} {ls : QL} {st : List QV} {μ : QM} : q_vc fl_X1 ld Γ q_T rk Rt sk S (n + 1) ((.getfield 25, nx, tg) :: r) pc ls (.inr (.inr 34) :: st) μ = q_vc fl_X1 ld Γ q_T rk Rt sk S n r nx ls (.inr (.inr 38) :: st) μ := propext ⟨fun h => h.2, fun h => ⟨rfl, h⟩⟩
theorem fl_X1_25 : fl_X1 25 = (1, 6) := id rfl
theorem g_X1_29 {ld : Nat → QV} {Γ : Nat → Nat × QP} {rk : Nat} {Rt : Option QV → QM → Prop} {sk : Nat → Option (List QE)} {S : Nat → QL → List QV → QM → Prop} {n pc nx : Nat} {tg : List (Int × Nat)} {r : List QE} {ls : QL} {st : List QV} {μ : QM} : q_vc fl_X1 ld Γ q_T rk Rt sk S (n + 1) ((.getfield 29, nx, tg) :: r) pc ls (.inr (.inr 34) :: st) μ = q_vc fl_X1 ld Γ q_T rk Rt sk S n r nx ls (.inr (.inr 1) :: st) μ := propext ⟨fun h => h.2, fun h => ⟨rfl, h⟩⟩
theorem fl_X1_29 : fl_X1 29 = (1, 0) := id rfl
theorem g_X1_33 {ld : Nat → QV} {Γ : Nat → Nat × QP} {rk : Nat} {Rt : Option QV → QM → Prop} {sk : Nat → Option (List QE)} {S : Nat → QL → List QV → QM → Prop} {n pc nx : Nat} {tg : List (Int × Nat)} {r : List QE} {ls : QL} {st : List QV} {μ : QM} : q_vc fl_X1 ld Γ q_T rk Rt sk S (n + 1) ((.getfield 33, nx, tg) :: r) pc ls (.inr (.inr 34) :: st) μ = q_vc fl_X1 ld Γ q_T rk Rt sk S n r nx ls (.inr (.inr 2) :: st) μ := propext ⟨fun h => h.2, fun h => ⟨rfl, h⟩⟩
theorem fl_X1_33 : fl_X1 33 = (1, 1) := id rfl
theorem g_X1_37 {ld : Nat → QV} {Γ : Nat → Nat × QP} {rk : Nat} {Rt : Option QV → QM → Prop} {sk : Nat → Option (List QE)} {S : Nat → QL → List QV → QM → Prop} {n pc nx : Nat} {tg : List (Int × Nat)} {r : List QE} {ls : QL} {st : List QV} {μ : QM} : q_vc fl_X1 ld Γ q_T rk Rt sk S (n + 1) ((.getfield 37, nx, tg) :: r) pc ls (.inr (.inr 34) :: st) μ = q_vc fl_X1 ld Γ q_T rk Rt sk S n r nx ls (.inr (.inr 23) :: st) μ := propext ⟨fun h => h.2, fun h => ⟨rfl, h⟩⟩
theorem fl_X1_37 : fl_X1 37 = (1, 2) := id rfl
theorem fl_X1_60 : fl_X1 60 = (4, 2) := id rfl
theorem fl_X1_74 : fl_X1 74 = (4, 0) := id rfl
theorem fl_X1_77 : fl_X1 77 = (4, 3) := id rfl
theorem g_X1_92 {ld : Nat → QV} {Γ : Nat → Nat × QP} {rk : Nat} {Rt : Option QV → QM → Prop} {sk : Nat → Option (List QE)} {S : Nat → QL → List QV → QM → Prop} {n pc nx : Nat} {tg : List (Int × Nat)} {r : List QE} {ls : QL} {st : List QV} {μ : QM} : q_vc fl_X1 ld Γ q_T rk Rt sk S (n + 1) ((.getfield 92, nx, tg) :: r) pc ls (.inr (.inr 2) :: st) μ = q_vc fl_X1 ld Γ q_T rk Rt sk S n r nx ls (.inr (.inr 3) :: st) μ := propext ⟨fun h => h.2, fun h => ⟨rfl, h⟩⟩
theorem fl_X1_92 : fl_X1 92 = (5, 0) := id rfl
theorem fl_X1_97 : fl_X1 97 = (4, 4) := id rfl
theorem g_X1_117 {ld : Nat → QV} {Γ : Nat → Nat × QP} {rk : Nat} {Rt : Option QV → QM → Prop} {sk : Nat → Option (List QE)} {S : Nat → QL → List QV → QM → Prop} {n pc nx : Nat} {tg : List (Int × Nat)} {r : List QE} {ls : QL} {st : List QV} {μ : QM} : q_vc fl_X1 ld Γ q_T rk Rt sk S (n + 1) ((.getfield 117, nx, tg) :: r) pc ls (.inr (.inr 1) :: st) μ = q_vc fl_X1 ld Γ q_T rk Rt sk S n r nx ls (.inl (μ 1 0) :: st) μ := propext ⟨fun h => h.2, fun h => ⟨rfl, h⟩⟩
theorem p_X1_117 {ld : Nat → QV} {Γ : Nat → Nat × QP} {rk : Nat} {Rt : Option QV → QM → Prop} {sk : Nat → Option (List QE)} {S : Nat → QL → List QV → QM → Prop} {n pc nx : Nat} {tg : List (Int × Nat)} {r : List QE} {ls : QL} {st : List QV} {μ : QM} {z : Int} : q_vc fl_X1 ld Γ q_T rk Rt sk S (n + 1) ((.putfield 117, nx, tg) :: r) pc ls (.inl z :: .inr (.inr 1) :: st) μ = (q_vc fl_X1 ld Γ q_T rk Rt sk S n r nx ls st (q_up μ 1 0 z)) := propext ⟨fun h => h.2, fun h => ⟨rfl, h⟩⟩
theorem fl_X1_117 : fl_X1 117 = (0, 0) := id rfl
theorem g_X1_120 {ld : Nat → QV} {Γ : Nat → Nat × QP} {rk : Nat} {Rt : Option QV → QM → Prop} {sk : Nat → Option (List QE)} {S : Nat → QL → List QV → QM → Prop} {n pc nx : Nat} {tg : List (Int × Nat)} {r : List QE} {ls : QL} {st : List QV} {μ : QM} : q_vc fl_X1 ld Γ q_T rk Rt sk S (n + 1) ((.getfield 120, nx, tg) :: r) pc ls (.inr (.inr 1) :: st) μ = q_vc fl_X1 ld Γ q_T rk Rt sk S n r nx ls (.inl (μ 1 1) :: st) μ := propext ⟨fun h => h.2, fun h => ⟨rfl, h⟩⟩
theorem p_X1_120 {ld : Nat → QV} {Γ : Nat → Nat × QP} {rk : Nat} {Rt : Option QV → QM → Prop} {sk : Nat → Option (List QE)} {S : Nat → QL → List QV → QM → Prop} {n pc nx : Nat} {tg : List (Int × Nat)} {r : List QE} {ls : QL} {st : List QV} {μ : QM} {z : Int} : q_vc fl_X1 ld Γ q_T rk Rt sk S (n + 1) ((.putfield 120, nx, tg) :: r) pc ls (.inl z :: .inr (.inr 1) :: st) μ = (q_vc fl_X1 ld Γ q_T rk Rt sk S n r nx ls st (q_up μ 1 1 z)) := propext ⟨fun h => h.2, fun h => ⟨rfl, h⟩⟩
theorem fl_X1_120 : fl_X1 120 = (0, 1) := id rfl
def fl_X2 : Nat → Nat × Nat := fun i => match i with
  | 11 => (2, 0)
  | 17 => (2, 1)
  | 25 => (2, 2)
  | _ => (99, 0)
def ld_X2 : Nat → QV := fun i => match i with
  | _ => .inl 0
theorem fl_X2_11 : fl_X2 11 = (2, 0) := id rfl
theorem fl_X2_17 : fl_X2 17 = (2, 1) := id rfl
theorem fl_X2_25 : fl_X2 25 = (2, 2) := id rfl
def fl_X3 : Nat → Nat × Nat := fun i => match i with
  | 14 => (3, 0)
  | 20 => (3, 1)
  | 60 => (2, 0)
  | 64 => (2, 2)
  | 95 => (4, 3)
  | 101 => (4, 4)
  | _ => (99, 0)
def ld_X3 : Nat → QV := fun i => match i with
  | 104 => .inl (1000000)
  | _ => .inl 0
theorem ld_X3_104 : ld_X3 104 = .inl (1000000) := id rfl
theorem g_X3_14 {ld : Nat → QV} {Γ : Nat → Nat × QP} {rk : Nat} {Rt : Option QV → QM → Prop} {sk : Nat → Option (List QE)} {S : Nat → QL → List QV → QM → Prop} {n pc nx : Nat} {tg : List (Int × Nat)} {r : List QE} {ls : QL} {st : List QV} {μ : QM} : q_vc fl_X3 ld Γ q_T rk Rt sk S (n + 1) ((.getfield 14, nx, tg) :: r) pc ls (.inr (.inr 15) :: st) μ = q_vc fl_X3 ld Γ q_T rk Rt sk S n r nx ls (.inr (.inr 16) :: st) μ := propext ⟨fun h => h.2, fun h => ⟨rfl, h⟩⟩
theorem fl_X3_14 : fl_X3 14 = (3, 0) := id rfl
theorem g_X3_20 {ld : Nat → QV} {Γ : Nat → Nat × QP} {rk : Nat} {Rt : Option QV → QM → Prop} {sk : Nat → Option (List QE)} {S : Nat → QL → List QV → QM → Prop} {n pc nx : Nat} {tg : List (Int × Nat)} {r : List QE} {ls : QL} {st : List QV} {μ : QM} : q_vc fl_X3 ld Γ q_T rk Rt sk S (n + 1) ((.getfield 20, nx, tg) :: r) pc ls (.inr (.inr 15) :: st) μ = q_vc fl_X3 ld Γ q_T rk Rt sk S n r nx ls (.inr (.inr (μ 15 1)) :: st) μ := propext ⟨fun h => h.2, fun h => ⟨rfl, h⟩⟩
theorem p_X3_20 {ld : Nat → QV} {Γ : Nat → Nat × QP} {rk : Nat} {Rt : Option QV → QM → Prop} {sk : Nat → Option (List QE)} {S : Nat → QL → List QV → QM → Prop} {n pc nx : Nat} {tg : List (Int × Nat)} {r : List QE} {ls : QL} {st : List QV} {μ : QM} {z : Int} : q_vc fl_X3 ld Γ q_T rk Rt sk S (n + 1) ((.putfield 20, nx, tg) :: r) pc ls (.inr (.inr z) :: .inr (.inr 15) :: st) μ = (q_vc fl_X3 ld Γ q_T rk Rt sk S n r nx ls st (q_up μ 15 1 z)) := propext ⟨fun h => h.2, fun h => ⟨rfl, h⟩⟩
theorem fl_X3_20 : fl_X3 20 = (3, 1) := id rfl
theorem fl_X3_60 : fl_X3 60 = (2, 0) := id rfl
theorem fl_X3_64 : fl_X3 64 = (2, 2) := id rfl
theorem fl_X3_95 : fl_X3 95 = (4, 3) := id rfl
theorem fl_X3_101 : fl_X3 101 = (4, 4) := id rfl
def fl_X4 : Nat → Nat × Nat := fun i => match i with
  | 9 => (4, 0)
  | 15 => (4, 2)
  | 19 => (4, 1)
  | 22 => (4, 3)
  | 25 => (4, 4)
  | _ => (99, 0)
def ld_X4 : Nat → QV := fun i => match i with
  | _ => .inl 0
theorem fl_X4_9 : fl_X4 9 = (4, 0) := id rfl
theorem fl_X4_15 : fl_X4 15 = (4, 2) := id rfl
theorem fl_X4_19 : fl_X4 19 = (4, 1) := id rfl
theorem fl_X4_22 : fl_X4 22 = (4, 3) := id rfl
theorem fl_X4_25 : fl_X4 25 = (4, 4) := id rfl
def fl_X5 : Nat → Nat × Nat := fun i => match i with
  | 11 => (5, 0)
  | 16 => (5, 1)
  | 19 => (5, 2)
  | _ => (99, 0)
def ld_X5 : Nat → QV := fun i => match i with
  | 26 => .inl (-2000000000)
  | _ => .inl 0
theorem ld_X5_26 : ld_X5 26 = .inl (-2000000000) := id rfl
theorem g_X5_11 {ld : Nat → QV} {Γ : Nat → Nat × QP} {rk : Nat} {Rt : Option QV → QM → Prop} {sk : Nat → Option (List QE)} {S : Nat → QL → List QV → QM → Prop} {n pc nx : Nat} {tg : List (Int × Nat)} {r : List QE} {ls : QL} {st : List QV} {μ : QM} : q_vc fl_X5 ld Γ q_T rk Rt sk S (n + 1) ((.getfield 11, nx, tg) :: r) pc ls (.inr (.inr 2) :: st) μ = q_vc fl_X5 ld Γ q_T rk Rt sk S n r nx ls (.inr (.inr 3) :: st) μ := propext ⟨fun h => h.2, fun h => ⟨rfl, h⟩⟩
theorem fl_X5_11 : fl_X5 11 = (5, 0) := id rfl
theorem g_X5_16 {ld : Nat → QV} {Γ : Nat → Nat × QP} {rk : Nat} {Rt : Option QV → QM → Prop} {sk : Nat → Option (List QE)} {S : Nat → QL → List QV → QM → Prop} {n pc nx : Nat} {tg : List (Int × Nat)} {r : List QE} {ls : QL} {st : List QV} {μ : QM} : q_vc fl_X5 ld Γ q_T rk Rt sk S (n + 1) ((.getfield 16, nx, tg) :: r) pc ls (.inr (.inr 2) :: st) μ = q_vc fl_X5 ld Γ q_T rk Rt sk S n r nx ls (.inr (.inr 8) :: st) μ := propext ⟨fun h => h.2, fun h => ⟨rfl, h⟩⟩
theorem fl_X5_16 : fl_X5 16 = (5, 1) := id rfl
theorem g_X5_19 {ld : Nat → QV} {Γ : Nat → Nat × QP} {rk : Nat} {Rt : Option QV → QM → Prop} {sk : Nat → Option (List QE)} {S : Nat → QL → List QV → QM → Prop} {n pc nx : Nat} {tg : List (Int × Nat)} {r : List QE} {ls : QL} {st : List QV} {μ : QM} : q_vc fl_X5 ld Γ q_T rk Rt sk S (n + 1) ((.getfield 19, nx, tg) :: r) pc ls (.inr (.inr 2) :: st) μ = q_vc fl_X5 ld Γ q_T rk Rt sk S n r nx ls (.inr (.inr 12) :: st) μ := propext ⟨fun h => h.2, fun h => ⟨rfl, h⟩⟩
theorem fl_X5_19 : fl_X5 19 = (5, 2) := id rfl
def fl_X6 : Nat → Nat × Nat := fun i => match i with
  | 9 => (6, 0)
  | 16 => (6, 1)
  | 21 => (6, 2)
  | 24 => (6, 3)
  | _ => (99, 0)
def ld_X6 : Nat → QV := fun i => match i with
  | 15 => .inl (-1000000000)
  | 20 => .inl (1000000000)
  | 27 => .inl (-2000000000)
  | _ => .inl 0
theorem ld_X6_15 : ld_X6 15 = .inl (-1000000000) := id rfl
theorem ld_X6_20 : ld_X6 20 = .inl (1000000000) := id rfl
theorem ld_X6_27 : ld_X6 27 = .inl (-2000000000) := id rfl
theorem g_X6_9 {ld : Nat → QV} {Γ : Nat → Nat × QP} {rk : Nat} {Rt : Option QV → QM → Prop} {sk : Nat → Option (List QE)} {S : Nat → QL → List QV → QM → Prop} {n pc nx : Nat} {tg : List (Int × Nat)} {r : List QE} {ls : QL} {st : List QV} {μ : QM} : q_vc fl_X6 ld Γ q_T rk Rt sk S (n + 1) ((.getfield 9, nx, tg) :: r) pc ls (.inr (.inr 35) :: st) μ = q_vc fl_X6 ld Γ q_T rk Rt sk S n r nx ls (.inr (.inl (μ 35 0)) :: st) μ := propext ⟨fun h => h.2, fun h => ⟨rfl, h⟩⟩
theorem p_X6_9 {ld : Nat → QV} {Γ : Nat → Nat × QP} {rk : Nat} {Rt : Option QV → QM → Prop} {sk : Nat → Option (List QE)} {S : Nat → QL → List QV → QM → Prop} {n pc nx : Nat} {tg : List (Int × Nat)} {r : List QE} {ls : QL} {st : List QV} {μ : QM} {z : Int} : q_vc fl_X6 ld Γ q_T rk Rt sk S (n + 1) ((.putfield 9, nx, tg) :: r) pc ls (.inr (.inl z) :: .inr (.inr 35) :: st) μ = (q_vc fl_X6 ld Γ q_T rk Rt sk S n r nx ls st (q_up μ 35 0 z)) := propext ⟨fun h => h.2, fun h => ⟨rfl, h⟩⟩
theorem fl_X6_9 : fl_X6 9 = (6, 0) := id rfl
theorem g_X6_16 {ld : Nat → QV} {Γ : Nat → Nat × QP} {rk : Nat} {Rt : Option QV → QM → Prop} {sk : Nat → Option (List QE)} {S : Nat → QL → List QV → QM → Prop} {n pc nx : Nat} {tg : List (Int × Nat)} {r : List QE} {ls : QL} {st : List QV} {μ : QM} : q_vc fl_X6 ld Γ q_T rk Rt sk S (n + 1) ((.getfield 16, nx, tg) :: r) pc ls (.inr (.inr 35) :: st) μ = q_vc fl_X6 ld Γ q_T rk Rt sk S n r nx ls (.inl (μ 35 1) :: st) μ := propext ⟨fun h => h.2, fun h => ⟨rfl, h⟩⟩
theorem p_X6_16 {ld : Nat → QV} {Γ : Nat → Nat × QP} {rk : Nat} {Rt : Option QV → QM → Prop} {sk : Nat → Option (List QE)} {S : Nat → QL → List QV → QM → Prop} {n pc nx : Nat} {tg : List (Int × Nat)} {r : List QE} {ls : QL} {st : List QV} {μ : QM} {z : Int} : q_vc fl_X6 ld Γ q_T rk Rt sk S (n + 1) ((.putfield 16, nx, tg) :: r) pc ls (.inl z :: .inr (.inr 35) :: st) μ = (q_vc fl_X6 ld Γ q_T rk Rt sk S n r nx ls st (q_up μ 35 1 z)) := propext ⟨fun h => h.2, fun h => ⟨rfl, h⟩⟩
theorem fl_X6_16 : fl_X6 16 = (6, 1) := id rfl
theorem g_X6_21 {ld : Nat → QV} {Γ : Nat → Nat × QP} {rk : Nat} {Rt : Option QV → QM → Prop} {sk : Nat → Option (List QE)} {S : Nat → QL → List QV → QM → Prop} {n pc nx : Nat} {tg : List (Int × Nat)} {r : List QE} {ls : QL} {st : List QV} {μ : QM} : q_vc fl_X6 ld Γ q_T rk Rt sk S (n + 1) ((.getfield 21, nx, tg) :: r) pc ls (.inr (.inr 35) :: st) μ = q_vc fl_X6 ld Γ q_T rk Rt sk S n r nx ls (.inl (μ 35 2) :: st) μ := propext ⟨fun h => h.2, fun h => ⟨rfl, h⟩⟩
theorem p_X6_21 {ld : Nat → QV} {Γ : Nat → Nat × QP} {rk : Nat} {Rt : Option QV → QM → Prop} {sk : Nat → Option (List QE)} {S : Nat → QL → List QV → QM → Prop} {n pc nx : Nat} {tg : List (Int × Nat)} {r : List QE} {ls : QL} {st : List QV} {μ : QM} {z : Int} : q_vc fl_X6 ld Γ q_T rk Rt sk S (n + 1) ((.putfield 21, nx, tg) :: r) pc ls (.inl z :: .inr (.inr 35) :: st) μ = (q_vc fl_X6 ld Γ q_T rk Rt sk S n r nx ls st (q_up μ 35 2 z)) := propext ⟨fun h => h.2, fun h => ⟨rfl, h⟩⟩
theorem fl_X6_21 : fl_X6 21 = (6, 2) := id rfl
theorem g_X6_24 {ld : Nat → QV} {Γ : Nat → Nat × QP} {rk : Nat} {Rt : Option QV → QM → Prop} {sk : Nat → Option (List QE)} {S : Nat → QL → List QV → QM → Prop} {n pc nx : Nat} {tg : List (Int × Nat)} {r : List QE} {ls : QL} {st : List QV} {μ : QM} : q_vc fl_X6 ld Γ q_T rk Rt sk S (n + 1) ((.getfield 24, nx, tg) :: r) pc ls (.inr (.inr 35) :: st) μ = q_vc fl_X6 ld Γ q_T rk Rt sk S n r nx ls (.inl (μ 35 3) :: st) μ := propext ⟨fun h => h.2, fun h => ⟨rfl, h⟩⟩
theorem p_X6_24 {ld : Nat → QV} {Γ : Nat → Nat × QP} {rk : Nat} {Rt : Option QV → QM → Prop} {sk : Nat → Option (List QE)} {S : Nat → QL → List QV → QM → Prop} {n pc nx : Nat} {tg : List (Int × Nat)} {r : List QE} {ls : QL} {st : List QV} {μ : QM} {z : Int} : q_vc fl_X6 ld Γ q_T rk Rt sk S (n + 1) ((.putfield 24, nx, tg) :: r) pc ls (.inl z :: .inr (.inr 35) :: st) μ = (q_vc fl_X6 ld Γ q_T rk Rt sk S n r nx ls st (q_up μ 35 3 z)) := propext ⟨fun h => h.2, fun h => ⟨rfl, h⟩⟩
theorem fl_X6_24 : fl_X6 24 = (6, 3) := id rfl
def fl_X7 : Nat → Nat × Nat := fun i => match i with
  | 9 => (7, 0)
  | 15 => (7, 1)
  | _ => (99, 0)
def ld_X7 : Nat → QV := fun i => match i with
  | _ => .inl 0
theorem g_X7_9 {ld : Nat → QV} {Γ : Nat → Nat × QP} {rk : Nat} {Rt : Option QV → QM → Prop} {sk : Nat → Option (List QE)} {S : Nat → QL → List QV → QM → Prop} {n pc nx : Nat} {tg : List (Int × Nat)} {r : List QE} {ls : QL} {st : List QV} {μ : QM} : q_vc fl_X7 ld Γ q_T rk Rt sk S (n + 1) ((.getfield 9, nx, tg) :: r) pc ls (.inr (.inr 13) :: st) μ = q_vc fl_X7 ld Γ q_T rk Rt sk S n r nx ls (.inr (.inr 14) :: st) μ := propext ⟨fun h => h.2, fun h => ⟨rfl, h⟩⟩
theorem fl_X7_9 : fl_X7 9 = (7, 0) := id rfl
theorem g_X7_15 {ld : Nat → QV} {Γ : Nat → Nat × QP} {rk : Nat} {Rt : Option QV → QM → Prop} {sk : Nat → Option (List QE)} {S : Nat → QL → List QV → QM → Prop} {n pc nx : Nat} {tg : List (Int × Nat)} {r : List QE} {ls : QL} {st : List QV} {μ : QM} : q_vc fl_X7 ld Γ q_T rk Rt sk S (n + 1) ((.getfield 15, nx, tg) :: r) pc ls (.inr (.inr 13) :: st) μ = q_vc fl_X7 ld Γ q_T rk Rt sk S n r nx ls (.inl (μ 13 1) :: st) μ := propext ⟨fun h => h.2, fun h => ⟨rfl, h⟩⟩
theorem p_X7_15 {ld : Nat → QV} {Γ : Nat → Nat × QP} {rk : Nat} {Rt : Option QV → QM → Prop} {sk : Nat → Option (List QE)} {S : Nat → QL → List QV → QM → Prop} {n pc nx : Nat} {tg : List (Int × Nat)} {r : List QE} {ls : QL} {st : List QV} {μ : QM} {z : Int} : q_vc fl_X7 ld Γ q_T rk Rt sk S (n + 1) ((.putfield 15, nx, tg) :: r) pc ls (.inl z :: .inr (.inr 13) :: st) μ = (q_vc fl_X7 ld Γ q_T rk Rt sk S n r nx ls st (q_up μ 13 1 z)) := propext ⟨fun h => h.2, fun h => ⟨rfl, h⟩⟩
theorem fl_X7_15 : fl_X7 15 = (7, 1) := id rfl
def fl_X8 : Nat → Nat × Nat := fun i => match i with
  | 9 => (8, 1)
  | 15 => (8, 2)
  | 18 => (8, 3)
  | 21 => (8, 0)
  | 25 => (8, 5)
  | 29 => (8, 4)
  | 32 => (7, 1)
  | _ => (99, 0)
def ld_X8 : Nat → QV := fun i => match i with
  | 71 => .inl (1000001)
  | 86 => .inr (.inr (1000))
  | 88 => .inr (.inr (1001))
  | 90 => .inr (.inr (1002))
  | 92 => .inr (.inr (1003))
  | 94 => .inr (.inr (1004))
  | 96 => .inr (.inr (1005))
  | 98 => .inr (.inr (1006))
  | 100 => .inr (.inr (1007))
  | 102 => .inr (.inr (1008))
  | 104 => .inr (.inr (1009))
  | 106 => .inr (.inr (1010))
  | 108 => .inr (.inr (1011))
  | 110 => .inr (.inr (1012))
  | 112 => .inr (.inr (1013))
  | 114 => .inr (.inr (1014))
  | 116 => .inr (.inr (1015))
  | _ => .inl 0
theorem ld_X8_71 : ld_X8 71 = .inl (1000001) := id rfl
theorem ld_X8_86 : ld_X8 86 = .inr (.inr (1000)) := id rfl
theorem ld_X8_88 : ld_X8 88 = .inr (.inr (1001)) := id rfl
theorem ld_X8_90 : ld_X8 90 = .inr (.inr (1002)) := id rfl
theorem ld_X8_92 : ld_X8 92 = .inr (.inr (1003)) := id rfl
theorem ld_X8_94 : ld_X8 94 = .inr (.inr (1004)) := id rfl
theorem ld_X8_96 : ld_X8 96 = .inr (.inr (1005)) := id rfl
theorem ld_X8_98 : ld_X8 98 = .inr (.inr (1006)) := id rfl
theorem ld_X8_100 : ld_X8 100 = .inr (.inr (1007)) := id rfl
theorem ld_X8_102 : ld_X8 102 = .inr (.inr (1008)) := id rfl
theorem ld_X8_104 : ld_X8 104 = .inr (.inr (1009)) := id rfl
theorem ld_X8_106 : ld_X8 106 = .inr (.inr (1010)) := id rfl
theorem ld_X8_108 : ld_X8 108 = .inr (.inr (1011)) := id rfl
theorem ld_X8_110 : ld_X8 110 = .inr (.inr (1012)) := id rfl
theorem ld_X8_112 : ld_X8 112 = .inr (.inr (1013)) := id rfl
theorem ld_X8_114 : ld_X8 114 = .inr (.inr (1014)) := id rfl
theorem ld_X8_116 : ld_X8 116 = .inr (.inr (1015)) := id rfl
theorem g_X8_9 {ld : Nat → QV} {Γ : Nat → Nat × QP} {rk : Nat} {Rt : Option QV → QM → Prop} {sk : Nat → Option (List QE)} {S : Nat → QL → List QV → QM → Prop} {n pc nx : Nat} {tg : List (Int × Nat)} {r : List QE} {ls : QL} {st : List QV} {μ : QM} : q_vc fl_X8 ld Γ q_T rk Rt sk S (n + 1) ((.getfield 9, nx, tg) :: r) pc ls (.inr (.inr 16) :: st) μ = q_vc fl_X8 ld Γ q_T rk Rt sk S n r nx ls (.inr (.inr 17) :: st) μ := propext ⟨fun h => h.2, fun h => ⟨rfl, h⟩⟩
theorem fl_X8_9 : fl_X8 9 = (8, 1) := id rfl
theorem g_X8_15 {ld : Nat → QV} {Γ : Nat → Nat × QP} {rk : Nat} {Rt : Option QV → QM → Prop} {sk : Nat → Option (List QE)} {S : Nat → QL → List QV → QM → Prop} {n pc nx : Nat} {tg : List (Int × Nat)} {r : List QE} {ls : QL} {st : List QV} {μ : QM} : q_vc fl_X8 ld Γ q_T rk Rt sk S (n + 1) ((.getfield 15, nx, tg) :: r) pc ls (.inr (.inr 16) :: st) μ = q_vc fl_X8 ld Γ q_T rk Rt sk S n r nx ls (.inr (.inr 18) :: st) μ := propext ⟨fun h => h.2, fun h => ⟨rfl, h⟩⟩
theorem fl_X8_15 : fl_X8 15 = (8, 2) := id rfl
theorem g_X8_18 {ld : Nat → QV} {Γ : Nat → Nat × QP} {rk : Nat} {Rt : Option QV → QM → Prop} {sk : Nat → Option (List QE)} {S : Nat → QL → List QV → QM → Prop} {n pc nx : Nat} {tg : List (Int × Nat)} {r : List QE} {ls : QL} {st : List QV} {μ : QM} : q_vc fl_X8 ld Γ q_T rk Rt sk S (n + 1) ((.getfield 18, nx, tg) :: r) pc ls (.inr (.inr 16) :: st) μ = q_vc fl_X8 ld Γ q_T rk Rt sk S n r nx ls (.inr (.inr 19) :: st) μ := propext ⟨fun h => h.2, fun h => ⟨rfl, h⟩⟩
theorem fl_X8_18 : fl_X8 18 = (8, 3) := id rfl
theorem g_X8_21 {ld : Nat → QV} {Γ : Nat → Nat × QP} {rk : Nat} {Rt : Option QV → QM → Prop} {sk : Nat → Option (List QE)} {S : Nat → QL → List QV → QM → Prop} {n pc nx : Nat} {tg : List (Int × Nat)} {r : List QE} {ls : QL} {st : List QV} {μ : QM} : q_vc fl_X8 ld Γ q_T rk Rt sk S (n + 1) ((.getfield 21, nx, tg) :: r) pc ls (.inr (.inr 16) :: st) μ = q_vc fl_X8 ld Γ q_T rk Rt sk S n r nx ls (.inr (.inr 13) :: st) μ := propext ⟨fun h => h.2, fun h => ⟨rfl, h⟩⟩
theorem fl_X8_21 : fl_X8 21 = (8, 0) := id rfl
theorem g_X8_25 {ld : Nat → QV} {Γ : Nat → Nat × QP} {rk : Nat} {Rt : Option QV → QM → Prop} {sk : Nat → Option (List QE)} {S : Nat → QL → List QV → QM → Prop} {n pc nx : Nat} {tg : List (Int × Nat)} {r : List QE} {ls : QL} {st : List QV} {μ : QM} : q_vc fl_X8 ld Γ q_T rk Rt sk S (n + 1) ((.getfield 25, nx, tg) :: r) pc ls (.inr (.inr 16) :: st) μ = q_vc fl_X8 ld Γ q_T rk Rt sk S n r nx ls (.inl (μ 16 5) :: st) μ := propext ⟨fun h => h.2, fun h => ⟨rfl, h⟩⟩
theorem p_X8_25 {ld : Nat → QV} {Γ : Nat → Nat × QP} {rk : Nat} {Rt : Option QV → QM → Prop} {sk : Nat → Option (List QE)} {S : Nat → QL → List QV → QM → Prop} {n pc nx : Nat} {tg : List (Int × Nat)} {r : List QE} {ls : QL} {st : List QV} {μ : QM} {z : Int} : q_vc fl_X8 ld Γ q_T rk Rt sk S (n + 1) ((.putfield 25, nx, tg) :: r) pc ls (.inl z :: .inr (.inr 16) :: st) μ = (q_vc fl_X8 ld Γ q_T rk Rt sk S n r nx ls st (q_up μ 16 5 z)) := propext ⟨fun h => h.2, fun h => ⟨rfl, h⟩⟩
theorem fl_X8_25 : fl_X8 25 = (8, 5) := id rfl
theorem g_X8_29 {ld : Nat → QV} {Γ : Nat → Nat × QP} {rk : Nat} {Rt : Option QV → QM → Prop} {sk : Nat → Option (List QE)} {S : Nat → QL → List QV → QM → Prop} {n pc nx : Nat} {tg : List (Int × Nat)} {r : List QE} {ls : QL} {st : List QV} {μ : QM} : q_vc fl_X8 ld Γ q_T rk Rt sk S (n + 1) ((.getfield 29, nx, tg) :: r) pc ls (.inr (.inr 16) :: st) μ = q_vc fl_X8 ld Γ q_T rk Rt sk S n r nx ls (.inl (μ 16 4) :: st) μ := propext ⟨fun h => h.2, fun h => ⟨rfl, h⟩⟩
theorem p_X8_29 {ld : Nat → QV} {Γ : Nat → Nat × QP} {rk : Nat} {Rt : Option QV → QM → Prop} {sk : Nat → Option (List QE)} {S : Nat → QL → List QV → QM → Prop} {n pc nx : Nat} {tg : List (Int × Nat)} {r : List QE} {ls : QL} {st : List QV} {μ : QM} {z : Int} : q_vc fl_X8 ld Γ q_T rk Rt sk S (n + 1) ((.putfield 29, nx, tg) :: r) pc ls (.inl z :: .inr (.inr 16) :: st) μ = (q_vc fl_X8 ld Γ q_T rk Rt sk S n r nx ls st (q_up μ 16 4 z)) := propext ⟨fun h => h.2, fun h => ⟨rfl, h⟩⟩
theorem fl_X8_29 : fl_X8 29 = (8, 4) := id rfl
theorem g_X8_32 {ld : Nat → QV} {Γ : Nat → Nat × QP} {rk : Nat} {Rt : Option QV → QM → Prop} {sk : Nat → Option (List QE)} {S : Nat → QL → List QV → QM → Prop} {n pc nx : Nat} {tg : List (Int × Nat)} {r : List QE} {ls : QL} {st : List QV} {μ : QM} : q_vc fl_X8 ld Γ q_T rk Rt sk S (n + 1) ((.getfield 32, nx, tg) :: r) pc ls (.inr (.inr 13) :: st) μ = q_vc fl_X8 ld Γ q_T rk Rt sk S n r nx ls (.inl (μ 13 1) :: st) μ := propext ⟨fun h => h.2, fun h => ⟨rfl, h⟩⟩
theorem p_X8_32 {ld : Nat → QV} {Γ : Nat → Nat × QP} {rk : Nat} {Rt : Option QV → QM → Prop} {sk : Nat → Option (List QE)} {S : Nat → QL → List QV → QM → Prop} {n pc nx : Nat} {tg : List (Int × Nat)} {r : List QE} {ls : QL} {st : List QV} {μ : QM} {z : Int} : q_vc fl_X8 ld Γ q_T rk Rt sk S (n + 1) ((.putfield 32, nx, tg) :: r) pc ls (.inl z :: .inr (.inr 13) :: st) μ = (q_vc fl_X8 ld Γ q_T rk Rt sk S n r nx ls st (q_up μ 13 1 z)) := propext ⟨fun h => h.2, fun h => ⟨rfl, h⟩⟩
theorem fl_X8_32 : fl_X8 32 = (7, 1) := id rfl
def fl_X9 : Nat → Nat × Nat := fun i => match i with
  | 9 => (9, 2)
  | 15 => (9, 3)
  | 20 => (9, 4)
  | 23 => (9, 0)
  | 27 => (9, 5)
  | 36 => (9, 1)
  | 67 => (2, 0)
  | 73 => (4, 2)
  | 79 => (4, 4)
  | 82 => (2, 2)
  | 89 => (4, 1)
  | 92 => (4, 0)
  | 103 => (0, 2)
  | 119 => (9, 6)
  | _ => (99, 0)
def ld_X9 : Nat → QV := fun i => match i with
  | 49 => .inl (-2000000000)
  | _ => .inl 0
theorem ld_X9_49 : ld_X9 49 = .inl (-2000000000) := id rfl
theorem g_X9_9 {ld : Nat → QV} {Γ : Nat → Nat × QP} {rk : Nat} {Rt : Option QV → QM → Prop} {sk : Nat → Option (List QE)} {S : Nat → QL → List QV → QM → Prop} {n pc nx : Nat} {tg : List (Int × Nat)} {r : List QE} {ls : QL} {st : List QV} {μ : QM} : q_vc fl_X9 ld Γ q_T rk Rt sk S (n + 1) ((.getfield 9, nx, tg) :: r) pc ls (.inr (.inr 20) :: st) μ = q_vc fl_X9 ld Γ q_T rk Rt sk S n r nx ls (.inr (.inr 21) :: st) μ := propext ⟨fun h => h.2, fun h => ⟨rfl, h⟩⟩
theorem fl_X9_9 : fl_X9 9 = (9, 2) := id rfl
theorem g_X9_15 {ld : Nat → QV} {Γ : Nat → Nat × QP} {rk : Nat} {Rt : Option QV → QM → Prop} {sk : Nat → Option (List QE)} {S : Nat → QL → List QV → QM → Prop} {n pc nx : Nat} {tg : List (Int × Nat)} {r : List QE} {ls : QL} {st : List QV} {μ : QM} : q_vc fl_X9 ld Γ q_T rk Rt sk S (n + 1) ((.getfield 15, nx, tg) :: r) pc ls (.inr (.inr 20) :: st) μ = q_vc fl_X9 ld Γ q_T rk Rt sk S n r nx ls (.inr (.inr 22) :: st) μ := propext ⟨fun h => h.2, fun h => ⟨rfl, h⟩⟩
theorem fl_X9_15 : fl_X9 15 = (9, 3) := id rfl
theorem g_X9_20 {ld : Nat → QV} {Γ : Nat → Nat × QP} {rk : Nat} {Rt : Option QV → QM → Prop} {sk : Nat → Option (List QE)} {S : Nat → QL → List QV → QM → Prop} {n pc nx : Nat} {tg : List (Int × Nat)} {r : List QE} {ls : QL} {st : List QV} {μ : QM} : q_vc fl_X9 ld Γ q_T rk Rt sk S (n + 1) ((.getfield 20, nx, tg) :: r) pc ls (.inr (.inr 20) :: st) μ = q_vc fl_X9 ld Γ q_T rk Rt sk S n r nx ls (.inr (.inr 23) :: st) μ := propext ⟨fun h => h.2, fun h => ⟨rfl, h⟩⟩
theorem fl_X9_20 : fl_X9 20 = (9, 4) := id rfl
theorem g_X9_23 {ld : Nat → QV} {Γ : Nat → Nat × QP} {rk : Nat} {Rt : Option QV → QM → Prop} {sk : Nat → Option (List QE)} {S : Nat → QL → List QV → QM → Prop} {n pc nx : Nat} {tg : List (Int × Nat)} {r : List QE} {ls : QL} {st : List QV} {μ : QM} : q_vc fl_X9 ld Γ q_T rk Rt sk S (n + 1) ((.getfield 23, nx, tg) :: r) pc ls (.inr (.inr 20) :: st) μ = q_vc fl_X9 ld Γ q_T rk Rt sk S n r nx ls (.inr (.inr 1) :: st) μ := propext ⟨fun h => h.2, fun h => ⟨rfl, h⟩⟩
theorem fl_X9_23 : fl_X9 23 = (9, 0) := id rfl
theorem g_X9_27 {ld : Nat → QV} {Γ : Nat → Nat × QP} {rk : Nat} {Rt : Option QV → QM → Prop} {sk : Nat → Option (List QE)} {S : Nat → QL → List QV → QM → Prop} {n pc nx : Nat} {tg : List (Int × Nat)} {r : List QE} {ls : QL} {st : List QV} {μ : QM} : q_vc fl_X9 ld Γ q_T rk Rt sk S (n + 1) ((.getfield 27, nx, tg) :: r) pc ls (.inr (.inr 20) :: st) μ = q_vc fl_X9 ld Γ q_T rk Rt sk S n r nx ls (.inr (.inr (μ 20 5)) :: st) μ := propext ⟨fun h => h.2, fun h => ⟨rfl, h⟩⟩
theorem p_X9_27 {ld : Nat → QV} {Γ : Nat → Nat × QP} {rk : Nat} {Rt : Option QV → QM → Prop} {sk : Nat → Option (List QE)} {S : Nat → QL → List QV → QM → Prop} {n pc nx : Nat} {tg : List (Int × Nat)} {r : List QE} {ls : QL} {st : List QV} {μ : QM} {z : Int} : q_vc fl_X9 ld Γ q_T rk Rt sk S (n + 1) ((.putfield 27, nx, tg) :: r) pc ls (.inr (.inr z) :: .inr (.inr 20) :: st) μ = (q_vc fl_X9 ld Γ q_T rk Rt sk S n r nx ls st (q_up μ 20 5 z)) := propext ⟨fun h => h.2, fun h => ⟨rfl, h⟩⟩
theorem fl_X9_27 : fl_X9 27 = (9, 5) := id rfl
theorem g_X9_36 {ld : Nat → QV} {Γ : Nat → Nat × QP} {rk : Nat} {Rt : Option QV → QM → Prop} {sk : Nat → Option (List QE)} {S : Nat → QL → List QV → QM → Prop} {n pc nx : Nat} {tg : List (Int × Nat)} {r : List QE} {ls : QL} {st : List QV} {μ : QM} : q_vc fl_X9 ld Γ q_T rk Rt sk S (n + 1) ((.getfield 36, nx, tg) :: r) pc ls (.inr (.inr 20) :: st) μ = q_vc fl_X9 ld Γ q_T rk Rt sk S n r nx ls (.inr (.inr 34) :: st) μ := propext ⟨fun h => h.2, fun h => ⟨rfl, h⟩⟩
theorem fl_X9_36 : fl_X9 36 = (9, 1) := id rfl
theorem fl_X9_67 : fl_X9 67 = (2, 0) := id rfl
theorem fl_X9_73 : fl_X9 73 = (4, 2) := id rfl
theorem fl_X9_79 : fl_X9 79 = (4, 4) := id rfl
theorem fl_X9_82 : fl_X9 82 = (2, 2) := id rfl
theorem fl_X9_89 : fl_X9 89 = (4, 1) := id rfl
theorem fl_X9_92 : fl_X9 92 = (4, 0) := id rfl
theorem g_X9_103 {ld : Nat → QV} {Γ : Nat → Nat × QP} {rk : Nat} {Rt : Option QV → QM → Prop} {sk : Nat → Option (List QE)} {S : Nat → QL → List QV → QM → Prop} {n pc nx : Nat} {tg : List (Int × Nat)} {r : List QE} {ls : QL} {st : List QV} {μ : QM} : q_vc fl_X9 ld Γ q_T rk Rt sk S (n + 1) ((.getfield 103, nx, tg) :: r) pc ls (.inr (.inr 1) :: st) μ = q_vc fl_X9 ld Γ q_T rk Rt sk S n r nx ls (.inl (μ 1 2) :: st) μ := propext ⟨fun h => h.2, fun h => ⟨rfl, h⟩⟩
theorem p_X9_103 {ld : Nat → QV} {Γ : Nat → Nat × QP} {rk : Nat} {Rt : Option QV → QM → Prop} {sk : Nat → Option (List QE)} {S : Nat → QL → List QV → QM → Prop} {n pc nx : Nat} {tg : List (Int × Nat)} {r : List QE} {ls : QL} {st : List QV} {μ : QM} {z : Int} : q_vc fl_X9 ld Γ q_T rk Rt sk S (n + 1) ((.putfield 103, nx, tg) :: r) pc ls (.inl z :: .inr (.inr 1) :: st) μ = (q_vc fl_X9 ld Γ q_T rk Rt sk S n r nx ls st (q_up μ 1 2 z)) := propext ⟨fun h => h.2, fun h => ⟨rfl, h⟩⟩
theorem fl_X9_103 : fl_X9 103 = (0, 2) := id rfl
theorem g_X9_119 {ld : Nat → QV} {Γ : Nat → Nat × QP} {rk : Nat} {Rt : Option QV → QM → Prop} {sk : Nat → Option (List QE)} {S : Nat → QL → List QV → QM → Prop} {n pc nx : Nat} {tg : List (Int × Nat)} {r : List QE} {ls : QL} {st : List QV} {μ : QM} : q_vc fl_X9 ld Γ q_T rk Rt sk S (n + 1) ((.getfield 119, nx, tg) :: r) pc ls (.inr (.inr 20) :: st) μ = q_vc fl_X9 ld Γ q_T rk Rt sk S n r nx ls (.inl (μ 20 6) :: st) μ := propext ⟨fun h => h.2, fun h => ⟨rfl, h⟩⟩
theorem p_X9_119 {ld : Nat → QV} {Γ : Nat → Nat × QP} {rk : Nat} {Rt : Option QV → QM → Prop} {sk : Nat → Option (List QE)} {S : Nat → QL → List QV → QM → Prop} {n pc nx : Nat} {tg : List (Int × Nat)} {r : List QE} {ls : QL} {st : List QV} {μ : QM} {z : Int} : q_vc fl_X9 ld Γ q_T rk Rt sk S (n + 1) ((.putfield 119, nx, tg) :: r) pc ls (.inl z :: .inr (.inr 20) :: st) μ = (q_vc fl_X9 ld Γ q_T rk Rt sk S n r nx ls st (q_up μ 20 6 z)) := propext ⟨fun h => h.2, fun h => ⟨rfl, h⟩⟩
theorem fl_X9_119 : fl_X9 119 = (9, 6) := id rfl
def fl_X10 : Nat → Nat × Nat := fun i => match i with
  | 12 => (10, 0)
  | 19 => (10, 1)
  | 26 => (10, 2)
  | 33 => (10, 5)
  | 37 => (10, 6)
  | 45 => (10, 3)
  | 54 => (10, 4)
  | 58 => (10, 7)
  | 62 => (10, 8)
  | 103 => (5, 0)
  | 114 => (7, 1)
  | 125 => (2, 2)
  | 135 => (9, 4)
  | 148 => (9, 6)
  | 157 => (5, 2)
  | 164 => (0, 0)
  | 167 => (0, 1)
  | 170 => (0, 2)
  | 185 => (5, 1)
  | _ => (99, 0)
def ld_X10 : Nat → QV := fun i => match i with
  | 102 => .inl (-2000000000)
  | 188 => .inl (-1000000)
  | 189 => .inl (1000000)
  | 190 => .inr (.inl (-1000000000))
  | 192 => .inr (.inl (1000000000))
  | _ => .inl 0
theorem ld_X10_102 : ld_X10 102 = .inl (-2000000000) := id rfl
theorem ld_X10_188 : ld_X10 188 = .inl (-1000000) := id rfl
theorem ld_X10_189 : ld_X10 189 = .inl (1000000) := id rfl
theorem ld_X10_190 : ld_X10 190 = .inr (.inl (-1000000000)) := id rfl
theorem ld_X10_192 : ld_X10 192 = .inr (.inl (1000000000)) := id rfl
theorem g_X10_12 {ld : Nat → QV} {Γ : Nat → Nat × QP} {rk : Nat} {Rt : Option QV → QM → Prop} {sk : Nat → Option (List QE)} {S : Nat → QL → List QV → QM → Prop} {n pc nx : Nat} {tg : List (Int × Nat)} {r : List QE} {ls : QL} {st : List QV} {μ : QM} : q_vc fl_X10 ld Γ q_T rk Rt sk S (n + 1) ((.getfield 12, nx, tg) :: r) pc ls (.inr (.inr 0) :: st) μ = q_vc fl_X10 ld Γ q_T rk Rt sk S n r nx ls (.inr (.inr 1) :: st) μ := propext ⟨fun h => h.2, fun h => ⟨rfl, h⟩⟩
theorem fl_X10_12 : fl_X10 12 = (10, 0) := id rfl
theorem g_X10_19 {ld : Nat → QV} {Γ : Nat → Nat × QP} {rk : Nat} {Rt : Option QV → QM → Prop} {sk : Nat → Option (List QE)} {S : Nat → QL → List QV → QM → Prop} {n pc nx : Nat} {tg : List (Int × Nat)} {r : List QE} {ls : QL} {st : List QV} {μ : QM} : q_vc fl_X10 ld Γ q_T rk Rt sk S (n + 1) ((.getfield 19, nx, tg) :: r) pc ls (.inr (.inr 0) :: st) μ = q_vc fl_X10 ld Γ q_T rk Rt sk S n r nx ls (.inr (.inr 2) :: st) μ := propext ⟨fun h => h.2, fun h => ⟨rfl, h⟩⟩
theorem fl_X10_19 : fl_X10 19 = (10, 1) := id rfl
theorem g_X10_26 {ld : Nat → QV} {Γ : Nat → Nat × QP} {rk : Nat} {Rt : Option QV → QM → Prop} {sk : Nat → Option (List QE)} {S : Nat → QL → List QV → QM → Prop} {n pc nx : Nat} {tg : List (Int × Nat)} {r : List QE} {ls : QL} {st : List QV} {μ : QM} : q_vc fl_X10 ld Γ q_T rk Rt sk S (n + 1) ((.getfield 26, nx, tg) :: r) pc ls (.inr (.inr 0) :: st) μ = q_vc fl_X10 ld Γ q_T rk Rt sk S n r nx ls (.inr (.inr 13) :: st) μ := propext ⟨fun h => h.2, fun h => ⟨rfl, h⟩⟩
theorem fl_X10_26 : fl_X10 26 = (10, 2) := id rfl
theorem g_X10_33 {ld : Nat → QV} {Γ : Nat → Nat × QP} {rk : Nat} {Rt : Option QV → QM → Prop} {sk : Nat → Option (List QE)} {S : Nat → QL → List QV → QM → Prop} {n pc nx : Nat} {tg : List (Int × Nat)} {r : List QE} {ls : QL} {st : List QV} {μ : QM} : q_vc fl_X10 ld Γ q_T rk Rt sk S (n + 1) ((.getfield 33, nx, tg) :: r) pc ls (.inr (.inr 0) :: st) μ = q_vc fl_X10 ld Γ q_T rk Rt sk S n r nx ls (.inr (.inr (μ 0 5)) :: st) μ := propext ⟨fun h => h.2, fun h => ⟨rfl, h⟩⟩
theorem p_X10_33 {ld : Nat → QV} {Γ : Nat → Nat × QP} {rk : Nat} {Rt : Option QV → QM → Prop} {sk : Nat → Option (List QE)} {S : Nat → QL → List QV → QM → Prop} {n pc nx : Nat} {tg : List (Int × Nat)} {r : List QE} {ls : QL} {st : List QV} {μ : QM} {z : Int} : q_vc fl_X10 ld Γ q_T rk Rt sk S (n + 1) ((.putfield 33, nx, tg) :: r) pc ls (.inr (.inr z) :: .inr (.inr 0) :: st) μ = (q_vc fl_X10 ld Γ q_T rk Rt sk S n r nx ls st (q_up μ 0 5 z)) := propext ⟨fun h => h.2, fun h => ⟨rfl, h⟩⟩
theorem fl_X10_33 : fl_X10 33 = (10, 5) := id rfl
theorem g_X10_37 {ld : Nat → QV} {Γ : Nat → Nat × QP} {rk : Nat} {Rt : Option QV → QM → Prop} {sk : Nat → Option (List QE)} {S : Nat → QL → List QV → QM → Prop} {n pc nx : Nat} {tg : List (Int × Nat)} {r : List QE} {ls : QL} {st : List QV} {μ : QM} : q_vc fl_X10 ld Γ q_T rk Rt sk S (n + 1) ((.getfield 37, nx, tg) :: r) pc ls (.inr (.inr 0) :: st) μ = q_vc fl_X10 ld Γ q_T rk Rt sk S n r nx ls (.inr (.inr (μ 0 6)) :: st) μ := propext ⟨fun h => h.2, fun h => ⟨rfl, h⟩⟩
theorem p_X10_37 {ld : Nat → QV} {Γ : Nat → Nat × QP} {rk : Nat} {Rt : Option QV → QM → Prop} {sk : Nat → Option (List QE)} {S : Nat → QL → List QV → QM → Prop} {n pc nx : Nat} {tg : List (Int × Nat)} {r : List QE} {ls : QL} {st : List QV} {μ : QM} {z : Int} : q_vc fl_X10 ld Γ q_T rk Rt sk S (n + 1) ((.putfield 37, nx, tg) :: r) pc ls (.inr (.inr z) :: .inr (.inr 0) :: st) μ = (q_vc fl_X10 ld Γ q_T rk Rt sk S n r nx ls st (q_up μ 0 6 z)) := propext ⟨fun h => h.2, fun h => ⟨rfl, h⟩⟩
theorem fl_X10_37 : fl_X10 37 = (10, 6) := id rfl
theorem g_X10_45 {ld : Nat → QV} {Γ : Nat → Nat × QP} {rk : Nat} {Rt : Option QV → QM → Prop} {sk : Nat → Option (List QE)} {S : Nat → QL → List QV → QM → Prop} {n pc nx : Nat} {tg : List (Int × Nat)} {r : List QE} {ls : QL} {st : List QV} {μ : QM} : q_vc fl_X10 ld Γ q_T rk Rt sk S (n + 1) ((.getfield 45, nx, tg) :: r) pc ls (.inr (.inr 0) :: st) μ = q_vc fl_X10 ld Γ q_T rk Rt sk S n r nx ls (.inr (.inr 15) :: st) μ := propext ⟨fun h => h.2, fun h => ⟨rfl, h⟩⟩
theorem fl_X10_45 : fl_X10 45 = (10, 3) := id rfl
theorem g_X10_54 {ld : Nat → QV} {Γ : Nat → Nat × QP} {rk : Nat} {Rt : Option QV → QM → Prop} {sk : Nat → Option (List QE)} {S : Nat → QL → List QV → QM → Prop} {n pc nx : Nat} {tg : List (Int × Nat)} {r : List QE} {ls : QL} {st : List QV} {μ : QM} : q_vc fl_X10 ld Γ q_T rk Rt sk S (n + 1) ((.getfield 54, nx, tg) :: r) pc ls (.inr (.inr 0) :: st) μ = q_vc fl_X10 ld Γ q_T rk Rt sk S n r nx ls (.inr (.inr 20) :: st) μ := propext ⟨fun h => h.2, fun h => ⟨rfl, h⟩⟩
theorem fl_X10_54 : fl_X10 54 = (10, 4) := id rfl
theorem g_X10_58 {ld : Nat → QV} {Γ : Nat → Nat × QP} {rk : Nat} {Rt : Option QV → QM → Prop} {sk : Nat → Option (List QE)} {S : Nat → QL → List QV → QM → Prop} {n pc nx : Nat} {tg : List (Int × Nat)} {r : List QE} {ls : QL} {st : List QV} {μ : QM} : q_vc fl_X10 ld Γ q_T rk Rt sk S (n + 1) ((.getfield 58, nx, tg) :: r) pc ls (.inr (.inr 0) :: st) μ = q_vc fl_X10 ld Γ q_T rk Rt sk S n r nx ls (.inl (μ 0 7) :: st) μ := propext ⟨fun h => h.2, fun h => ⟨rfl, h⟩⟩
theorem p_X10_58 {ld : Nat → QV} {Γ : Nat → Nat × QP} {rk : Nat} {Rt : Option QV → QM → Prop} {sk : Nat → Option (List QE)} {S : Nat → QL → List QV → QM → Prop} {n pc nx : Nat} {tg : List (Int × Nat)} {r : List QE} {ls : QL} {st : List QV} {μ : QM} {z : Int} : q_vc fl_X10 ld Γ q_T rk Rt sk S (n + 1) ((.putfield 58, nx, tg) :: r) pc ls (.inl z :: .inr (.inr 0) :: st) μ = (q_vc fl_X10 ld Γ q_T rk Rt sk S n r nx ls st (q_up μ 0 7 z)) := propext ⟨fun h => h.2, fun h => ⟨rfl, h⟩⟩
theorem fl_X10_58 : fl_X10 58 = (10, 7) := id rfl
theorem g_X10_62 {ld : Nat → QV} {Γ : Nat → Nat × QP} {rk : Nat} {Rt : Option QV → QM → Prop} {sk : Nat → Option (List QE)} {S : Nat → QL → List QV → QM → Prop} {n pc nx : Nat} {tg : List (Int × Nat)} {r : List QE} {ls : QL} {st : List QV} {μ : QM} : q_vc fl_X10 ld Γ q_T rk Rt sk S (n + 1) ((.getfield 62, nx, tg) :: r) pc ls (.inr (.inr 0) :: st) μ = q_vc fl_X10 ld Γ q_T rk Rt sk S n r nx ls (.inl (μ 0 8) :: st) μ := propext ⟨fun h => h.2, fun h => ⟨rfl, h⟩⟩
theorem p_X10_62 {ld : Nat → QV} {Γ : Nat → Nat × QP} {rk : Nat} {Rt : Option QV → QM → Prop} {sk : Nat → Option (List QE)} {S : Nat → QL → List QV → QM → Prop} {n pc nx : Nat} {tg : List (Int × Nat)} {r : List QE} {ls : QL} {st : List QV} {μ : QM} {z : Int} : q_vc fl_X10 ld Γ q_T rk Rt sk S (n + 1) ((.putfield 62, nx, tg) :: r) pc ls (.inl z :: .inr (.inr 0) :: st) μ = (q_vc fl_X10 ld Γ q_T rk Rt sk S n r nx ls st (q_up μ 0 8 z)) := propext ⟨fun h => h.2, fun h => ⟨rfl, h⟩⟩
theorem fl_X10_62 : fl_X10 62 = (10, 8) := id rfl
theorem g_X10_103 {ld : Nat → QV} {Γ : Nat → Nat × QP} {rk : Nat} {Rt : Option QV → QM → Prop} {sk : Nat → Option (List QE)} {S : Nat → QL → List QV → QM → Prop} {n pc nx : Nat} {tg : List (Int × Nat)} {r : List QE} {ls : QL} {st : List QV} {μ : QM} : q_vc fl_X10 ld Γ q_T rk Rt sk S (n + 1) ((.getfield 103, nx, tg) :: r) pc ls (.inr (.inr 2) :: st) μ = q_vc fl_X10 ld Γ q_T rk Rt sk S n r nx ls (.inr (.inr 3) :: st) μ := propext ⟨fun h => h.2, fun h => ⟨rfl, h⟩⟩
theorem fl_X10_103 : fl_X10 103 = (5, 0) := id rfl
theorem g_X10_114 {ld : Nat → QV} {Γ : Nat → Nat × QP} {rk : Nat} {Rt : Option QV → QM → Prop} {sk : Nat → Option (List QE)} {S : Nat → QL → List QV → QM → Prop} {n pc nx : Nat} {tg : List (Int × Nat)} {r : List QE} {ls : QL} {st : List QV} {μ : QM} : q_vc fl_X10 ld Γ q_T rk Rt sk S (n + 1) ((.getfield 114, nx, tg) :: r) pc ls (.inr (.inr 13) :: st) μ = q_vc fl_X10 ld Γ q_T rk Rt sk S n r nx ls (.inl (μ 13 1) :: st) μ := propext ⟨fun h => h.2, fun h => ⟨rfl, h⟩⟩
theorem p_X10_114 {ld : Nat → QV} {Γ : Nat → Nat × QP} {rk : Nat} {Rt : Option QV → QM → Prop} {sk : Nat → Option (List QE)} {S : Nat → QL → List QV → QM → Prop} {n pc nx : Nat} {tg : List (Int × Nat)} {r : List QE} {ls : QL} {st : List QV} {μ : QM} {z : Int} : q_vc fl_X10 ld Γ q_T rk Rt sk S (n + 1) ((.putfield 114, nx, tg) :: r) pc ls (.inl z :: .inr (.inr 13) :: st) μ = (q_vc fl_X10 ld Γ q_T rk Rt sk S n r nx ls st (q_up μ 13 1 z)) := propext ⟨fun h => h.2, fun h => ⟨rfl, h⟩⟩
theorem fl_X10_114 : fl_X10 114 = (7, 1) := id rfl
theorem fl_X10_125 : fl_X10 125 = (2, 2) := id rfl
theorem g_X10_135 {ld : Nat → QV} {Γ : Nat → Nat × QP} {rk : Nat} {Rt : Option QV → QM → Prop} {sk : Nat → Option (List QE)} {S : Nat → QL → List QV → QM → Prop} {n pc nx : Nat} {tg : List (Int × Nat)} {r : List QE} {ls : QL} {st : List QV} {μ : QM} : q_vc fl_X10 ld Γ q_T rk Rt sk S (n + 1) ((.getfield 135, nx, tg) :: r) pc ls (.inr (.inr 20) :: st) μ = q_vc fl_X10 ld Γ q_T rk Rt sk S n r nx ls (.inr (.inr 23) :: st) μ := propext ⟨fun h => h.2, fun h => ⟨rfl, h⟩⟩
theorem fl_X10_135 : fl_X10 135 = (9, 4) := id rfl
theorem g_X10_148 {ld : Nat → QV} {Γ : Nat → Nat × QP} {rk : Nat} {Rt : Option QV → QM → Prop} {sk : Nat → Option (List QE)} {S : Nat → QL → List QV → QM → Prop} {n pc nx : Nat} {tg : List (Int × Nat)} {r : List QE} {ls : QL} {st : List QV} {μ : QM} : q_vc fl_X10 ld Γ q_T rk Rt sk S (n + 1) ((.getfield 148, nx, tg) :: r) pc ls (.inr (.inr 20) :: st) μ = q_vc fl_X10 ld Γ q_T rk Rt sk S n r nx ls (.inl (μ 20 6) :: st) μ := propext ⟨fun h => h.2, fun h => ⟨rfl, h⟩⟩
theorem p_X10_148 {ld : Nat → QV} {Γ : Nat → Nat × QP} {rk : Nat} {Rt : Option QV → QM → Prop} {sk : Nat → Option (List QE)} {S : Nat → QL → List QV → QM → Prop} {n pc nx : Nat} {tg : List (Int × Nat)} {r : List QE} {ls : QL} {st : List QV} {μ : QM} {z : Int} : q_vc fl_X10 ld Γ q_T rk Rt sk S (n + 1) ((.putfield 148, nx, tg) :: r) pc ls (.inl z :: .inr (.inr 20) :: st) μ = (q_vc fl_X10 ld Γ q_T rk Rt sk S n r nx ls st (q_up μ 20 6 z)) := propext ⟨fun h => h.2, fun h => ⟨rfl, h⟩⟩
theorem fl_X10_148 : fl_X10 148 = (9, 6) := id rfl
theorem g_X10_157 {ld : Nat → QV} {Γ : Nat → Nat × QP} {rk : Nat} {Rt : Option QV → QM → Prop} {sk : Nat → Option (List QE)} {S : Nat → QL → List QV → QM → Prop} {n pc nx : Nat} {tg : List (Int × Nat)} {r : List QE} {ls : QL} {st : List QV} {μ : QM} : q_vc fl_X10 ld Γ q_T rk Rt sk S (n + 1) ((.getfield 157, nx, tg) :: r) pc ls (.inr (.inr 2) :: st) μ = q_vc fl_X10 ld Γ q_T rk Rt sk S n r nx ls (.inr (.inr 12) :: st) μ := propext ⟨fun h => h.2, fun h => ⟨rfl, h⟩⟩
theorem fl_X10_157 : fl_X10 157 = (5, 2) := id rfl
theorem g_X10_164 {ld : Nat → QV} {Γ : Nat → Nat × QP} {rk : Nat} {Rt : Option QV → QM → Prop} {sk : Nat → Option (List QE)} {S : Nat → QL → List QV → QM → Prop} {n pc nx : Nat} {tg : List (Int × Nat)} {r : List QE} {ls : QL} {st : List QV} {μ : QM} : q_vc fl_X10 ld Γ q_T rk Rt sk S (n + 1) ((.getfield 164, nx, tg) :: r) pc ls (.inr (.inr 1) :: st) μ = q_vc fl_X10 ld Γ q_T rk Rt sk S n r nx ls (.inl (μ 1 0) :: st) μ := propext ⟨fun h => h.2, fun h => ⟨rfl, h⟩⟩
theorem p_X10_164 {ld : Nat → QV} {Γ : Nat → Nat × QP} {rk : Nat} {Rt : Option QV → QM → Prop} {sk : Nat → Option (List QE)} {S : Nat → QL → List QV → QM → Prop} {n pc nx : Nat} {tg : List (Int × Nat)} {r : List QE} {ls : QL} {st : List QV} {μ : QM} {z : Int} : q_vc fl_X10 ld Γ q_T rk Rt sk S (n + 1) ((.putfield 164, nx, tg) :: r) pc ls (.inl z :: .inr (.inr 1) :: st) μ = (q_vc fl_X10 ld Γ q_T rk Rt sk S n r nx ls st (q_up μ 1 0 z)) := propext ⟨fun h => h.2, fun h => ⟨rfl, h⟩⟩
theorem fl_X10_164 : fl_X10 164 = (0, 0) := id rfl
theorem g_X10_167 {ld : Nat → QV} {Γ : Nat → Nat × QP} {rk : Nat} {Rt : Option QV → QM → Prop} {sk : Nat → Option (List QE)} {S : Nat → QL → List QV → QM → Prop} {n pc nx : Nat} {tg : List (Int × Nat)} {r : List QE} {ls : QL} {st : List QV} {μ : QM} : q_vc fl_X10 ld Γ q_T rk Rt sk S (n + 1) ((.getfield 167, nx, tg) :: r) pc ls (.inr (.inr 1) :: st) μ = q_vc fl_X10 ld Γ q_T rk Rt sk S n r nx ls (.inl (μ 1 1) :: st) μ := propext ⟨fun h => h.2, fun h => ⟨rfl, h⟩⟩
theorem p_X10_167 {ld : Nat → QV} {Γ : Nat → Nat × QP} {rk : Nat} {Rt : Option QV → QM → Prop} {sk : Nat → Option (List QE)} {S : Nat → QL → List QV → QM → Prop} {n pc nx : Nat} {tg : List (Int × Nat)} {r : List QE} {ls : QL} {st : List QV} {μ : QM} {z : Int} : q_vc fl_X10 ld Γ q_T rk Rt sk S (n + 1) ((.putfield 167, nx, tg) :: r) pc ls (.inl z :: .inr (.inr 1) :: st) μ = (q_vc fl_X10 ld Γ q_T rk Rt sk S n r nx ls st (q_up μ 1 1 z)) := propext ⟨fun h => h.2, fun h => ⟨rfl, h⟩⟩
theorem fl_X10_167 : fl_X10 167 = (0, 1) := id rfl
theorem g_X10_170 {ld : Nat → QV} {Γ : Nat → Nat × QP} {rk : Nat} {Rt : Option QV → QM → Prop} {sk : Nat → Option (List QE)} {S : Nat → QL → List QV → QM → Prop} {n pc nx : Nat} {tg : List (Int × Nat)} {r : List QE} {ls : QL} {st : List QV} {μ : QM} : q_vc fl_X10 ld Γ q_T rk Rt sk S (n + 1) ((.getfield 170, nx, tg) :: r) pc ls (.inr (.inr 1) :: st) μ = q_vc fl_X10 ld Γ q_T rk Rt sk S n r nx ls (.inl (μ 1 2) :: st) μ := propext ⟨fun h => h.2, fun h => ⟨rfl, h⟩⟩
theorem p_X10_170 {ld : Nat → QV} {Γ : Nat → Nat × QP} {rk : Nat} {Rt : Option QV → QM → Prop} {sk : Nat → Option (List QE)} {S : Nat → QL → List QV → QM → Prop} {n pc nx : Nat} {tg : List (Int × Nat)} {r : List QE} {ls : QL} {st : List QV} {μ : QM} {z : Int} : q_vc fl_X10 ld Γ q_T rk Rt sk S (n + 1) ((.putfield 170, nx, tg) :: r) pc ls (.inl z :: .inr (.inr 1) :: st) μ = (q_vc fl_X10 ld Γ q_T rk Rt sk S n r nx ls st (q_up μ 1 2 z)) := propext ⟨fun h => h.2, fun h => ⟨rfl, h⟩⟩
theorem fl_X10_170 : fl_X10 170 = (0, 2) := id rfl
theorem g_X10_185 {ld : Nat → QV} {Γ : Nat → Nat × QP} {rk : Nat} {Rt : Option QV → QM → Prop} {sk : Nat → Option (List QE)} {S : Nat → QL → List QV → QM → Prop} {n pc nx : Nat} {tg : List (Int × Nat)} {r : List QE} {ls : QL} {st : List QV} {μ : QM} : q_vc fl_X10 ld Γ q_T rk Rt sk S (n + 1) ((.getfield 185, nx, tg) :: r) pc ls (.inr (.inr 2) :: st) μ = q_vc fl_X10 ld Γ q_T rk Rt sk S n r nx ls (.inr (.inr 8) :: st) μ := propext ⟨fun h => h.2, fun h => ⟨rfl, h⟩⟩
theorem fl_X10_185 : fl_X10 185 = (5, 1) := id rfl
def fl_X11 : Nat → Nat × Nat := fun i => match i with
  | 7 => (11, 2)
  | 13 => (11, 3)
  | 16 => (11, 4)
  | 20 => (11, 5)
  | 23 => (11, 6)
  | 27 => (11, 8)
  | 30 => (11, 9)
  | 33 => (11, 10)
  | 36 => (11, 11)
  | 39 => (11, 12)
  | 42 => (11, 13)
  | 45 => (11, 15)
  | 48 => (11, 16)
  | 51 => (11, 21)
  | 55 => (11, 22)
  | 58 => (11, 24)
  | 61 => (11, 25)
  | 64 => (11, 26)
  | 67 => (11, 27)
  | 70 => (11, 28)
  | 73 => (11, 29)
  | 76 => (11, 30)
  | 79 => (11, 36)
  | 85 => (11, 0)
  | 88 => (11, 1)
  | 125 => (11, 7)
  | 152 => (11, 14)
  | 155 => (11, 17)
  | 158 => (11, 18)
  | 162 => (11, 19)
  | 165 => (11, 20)
  | 218 => (11, 31)
  | 224 => (11, 33)
  | 227 => (11, 32)
  | 230 => (11, 35)
  | 239 => (11, 34)
  | 250 => (11, 37)
  | 269 => (11, 23)
  | _ => (99, 0)
def ld_X11 : Nat → QV := fun i => match i with
  | 91 => .inl (-2000000000)
  | 99 => .inr (.inl (2))
  | 101 => .inr (.inl (12))
  | 107 => .inr (.inl (3))
  | 109 => .inr (.inl (-1000000))
  | 111 => .inr (.inl (1000000))
  | 132 => .inr (.inl (8))
  | 168 => .inr (.inl (-1000000000))
  | 170 => .inr (.inl (1000000000))
  | 204 => .inr (.inl (-1))
  | 242 => .inr (.inl (32))
  | 244 => .inr (.inl (96))
  | 246 => .inr (.inl (10))
  | 248 => .inr (.inl (48))
  | _ => .inl 0
theorem ld_X11_91 : ld_X11 91 = .inl (-2000000000) := id rfl
theorem ld_X11_99 : ld_X11 99 = .inr (.inl (2)) := id rfl
theorem ld_X11_101 : ld_X11 101 = .inr (.inl (12)) := id rfl
theorem ld_X11_107 : ld_X11 107 = .inr (.inl (3)) := id rfl
theorem ld_X11_109 : ld_X11 109 = .inr (.inl (-1000000)) := id rfl
theorem ld_X11_111 : ld_X11 111 = .inr (.inl (1000000)) := id rfl
theorem ld_X11_132 : ld_X11 132 = .inr (.inl (8)) := id rfl
theorem ld_X11_168 : ld_X11 168 = .inr (.inl (-1000000000)) := id rfl
theorem ld_X11_170 : ld_X11 170 = .inr (.inl (1000000000)) := id rfl
theorem ld_X11_204 : ld_X11 204 = .inr (.inl (-1)) := id rfl
theorem ld_X11_242 : ld_X11 242 = .inr (.inl (32)) := id rfl
theorem ld_X11_244 : ld_X11 244 = .inr (.inl (96)) := id rfl
theorem ld_X11_246 : ld_X11 246 = .inr (.inl (10)) := id rfl
theorem ld_X11_248 : ld_X11 248 = .inr (.inl (48)) := id rfl
theorem g_X11_7 {ld : Nat → QV} {Γ : Nat → Nat × QP} {rk : Nat} {Rt : Option QV → QM → Prop} {sk : Nat → Option (List QE)} {S : Nat → QL → List QV → QM → Prop} {n pc nx : Nat} {tg : List (Int × Nat)} {r : List QE} {ls : QL} {st : List QV} {μ : QM} : q_vc fl_X11 ld Γ q_T rk Rt sk S (n + 1) ((.getfield 7, nx, tg) :: r) pc ls (.inr (.inr 85) :: st) μ = q_vc fl_X11 ld Γ q_T rk Rt sk S n r nx ls (.inl (μ 85 2) :: st) μ := propext ⟨fun h => h.2, fun h => ⟨rfl, h⟩⟩
theorem p_X11_7 {ld : Nat → QV} {Γ : Nat → Nat × QP} {rk : Nat} {Rt : Option QV → QM → Prop} {sk : Nat → Option (List QE)} {S : Nat → QL → List QV → QM → Prop} {n pc nx : Nat} {tg : List (Int × Nat)} {r : List QE} {ls : QL} {st : List QV} {μ : QM} {z : Int} : q_vc fl_X11 ld Γ q_T rk Rt sk S (n + 1) ((.putfield 7, nx, tg) :: r) pc ls (.inl z :: .inr (.inr 85) :: st) μ = (q_vc fl_X11 ld Γ q_T rk Rt sk S n r nx ls st (q_up μ 85 2 z)) := propext ⟨fun h => h.2, fun h => ⟨rfl, h⟩⟩
theorem fl_X11_7 : fl_X11 7 = (11, 2) := id rfl
theorem g_X11_13 {ld : Nat → QV} {Γ : Nat → Nat × QP} {rk : Nat} {Rt : Option QV → QM → Prop} {sk : Nat → Option (List QE)} {S : Nat → QL → List QV → QM → Prop} {n pc nx : Nat} {tg : List (Int × Nat)} {r : List QE} {ls : QL} {st : List QV} {μ : QM} : q_vc fl_X11 ld Γ q_T rk Rt sk S (n + 1) ((.getfield 13, nx, tg) :: r) pc ls (.inr (.inr 85) :: st) μ = q_vc fl_X11 ld Γ q_T rk Rt sk S n r nx ls (.inl (μ 85 3) :: st) μ := propext ⟨fun h => h.2, fun h => ⟨rfl, h⟩⟩
theorem p_X11_13 {ld : Nat → QV} {Γ : Nat → Nat × QP} {rk : Nat} {Rt : Option QV → QM → Prop} {sk : Nat → Option (List QE)} {S : Nat → QL → List QV → QM → Prop} {n pc nx : Nat} {tg : List (Int × Nat)} {r : List QE} {ls : QL} {st : List QV} {μ : QM} {z : Int} : q_vc fl_X11 ld Γ q_T rk Rt sk S (n + 1) ((.putfield 13, nx, tg) :: r) pc ls (.inl z :: .inr (.inr 85) :: st) μ = (q_vc fl_X11 ld Γ q_T rk Rt sk S n r nx ls st (q_up μ 85 3 z)) := propext ⟨fun h => h.2, fun h => ⟨rfl, h⟩⟩
theorem fl_X11_13 : fl_X11 13 = (11, 3) := id rfl
theorem g_X11_16 {ld : Nat → QV} {Γ : Nat → Nat × QP} {rk : Nat} {Rt : Option QV → QM → Prop} {sk : Nat → Option (List QE)} {S : Nat → QL → List QV → QM → Prop} {n pc nx : Nat} {tg : List (Int × Nat)} {r : List QE} {ls : QL} {st : List QV} {μ : QM} : q_vc fl_X11 ld Γ q_T rk Rt sk S (n + 1) ((.getfield 16, nx, tg) :: r) pc ls (.inr (.inr 85) :: st) μ = q_vc fl_X11 ld Γ q_T rk Rt sk S n r nx ls (.inr (.inr 86) :: st) μ := propext ⟨fun h => h.2, fun h => ⟨rfl, h⟩⟩
theorem fl_X11_16 : fl_X11 16 = (11, 4) := id rfl
theorem g_X11_20 {ld : Nat → QV} {Γ : Nat → Nat × QP} {rk : Nat} {Rt : Option QV → QM → Prop} {sk : Nat → Option (List QE)} {S : Nat → QL → List QV → QM → Prop} {n pc nx : Nat} {tg : List (Int × Nat)} {r : List QE} {ls : QL} {st : List QV} {μ : QM} : q_vc fl_X11 ld Γ q_T rk Rt sk S (n + 1) ((.getfield 20, nx, tg) :: r) pc ls (.inr (.inr 85) :: st) μ = q_vc fl_X11 ld Γ q_T rk Rt sk S n r nx ls (.inr (.inr 87) :: st) μ := propext ⟨fun h => h.2, fun h => ⟨rfl, h⟩⟩
theorem fl_X11_20 : fl_X11 20 = (11, 5) := id rfl
theorem g_X11_23 {ld : Nat → QV} {Γ : Nat → Nat × QP} {rk : Nat} {Rt : Option QV → QM → Prop} {sk : Nat → Option (List QE)} {S : Nat → QL → List QV → QM → Prop} {n pc nx : Nat} {tg : List (Int × Nat)} {r : List QE} {ls : QL} {st : List QV} {μ : QM} : q_vc fl_X11 ld Γ q_T rk Rt sk S (n + 1) ((.getfield 23, nx, tg) :: r) pc ls (.inr (.inr 85) :: st) μ = q_vc fl_X11 ld Γ q_T rk Rt sk S n r nx ls (.inr (.inr 88) :: st) μ := propext ⟨fun h => h.2, fun h => ⟨rfl, h⟩⟩
theorem fl_X11_23 : fl_X11 23 = (11, 6) := id rfl
theorem g_X11_27 {ld : Nat → QV} {Γ : Nat → Nat × QP} {rk : Nat} {Rt : Option QV → QM → Prop} {sk : Nat → Option (List QE)} {S : Nat → QL → List QV → QM → Prop} {n pc nx : Nat} {tg : List (Int × Nat)} {r : List QE} {ls : QL} {st : List QV} {μ : QM} : q_vc fl_X11 ld Γ q_T rk Rt sk S (n + 1) ((.getfield 27, nx, tg) :: r) pc ls (.inr (.inr 85) :: st) μ = q_vc fl_X11 ld Γ q_T rk Rt sk S n r nx ls (.inr (.inr 89) :: st) μ := propext ⟨fun h => h.2, fun h => ⟨rfl, h⟩⟩
theorem fl_X11_27 : fl_X11 27 = (11, 8) := id rfl
theorem g_X11_30 {ld : Nat → QV} {Γ : Nat → Nat × QP} {rk : Nat} {Rt : Option QV → QM → Prop} {sk : Nat → Option (List QE)} {S : Nat → QL → List QV → QM → Prop} {n pc nx : Nat} {tg : List (Int × Nat)} {r : List QE} {ls : QL} {st : List QV} {μ : QM} : q_vc fl_X11 ld Γ q_T rk Rt sk S (n + 1) ((.getfield 30, nx, tg) :: r) pc ls (.inr (.inr 85) :: st) μ = q_vc fl_X11 ld Γ q_T rk Rt sk S n r nx ls (.inr (.inr 90) :: st) μ := propext ⟨fun h => h.2, fun h => ⟨rfl, h⟩⟩
theorem fl_X11_30 : fl_X11 30 = (11, 9) := id rfl
theorem g_X11_33 {ld : Nat → QV} {Γ : Nat → Nat × QP} {rk : Nat} {Rt : Option QV → QM → Prop} {sk : Nat → Option (List QE)} {S : Nat → QL → List QV → QM → Prop} {n pc nx : Nat} {tg : List (Int × Nat)} {r : List QE} {ls : QL} {st : List QV} {μ : QM} : q_vc fl_X11 ld Γ q_T rk Rt sk S (n + 1) ((.getfield 33, nx, tg) :: r) pc ls (.inr (.inr 85) :: st) μ = q_vc fl_X11 ld Γ q_T rk Rt sk S n r nx ls (.inr (.inr 91) :: st) μ := propext ⟨fun h => h.2, fun h => ⟨rfl, h⟩⟩
theorem fl_X11_33 : fl_X11 33 = (11, 10) := id rfl
theorem g_X11_36 {ld : Nat → QV} {Γ : Nat → Nat × QP} {rk : Nat} {Rt : Option QV → QM → Prop} {sk : Nat → Option (List QE)} {S : Nat → QL → List QV → QM → Prop} {n pc nx : Nat} {tg : List (Int × Nat)} {r : List QE} {ls : QL} {st : List QV} {μ : QM} : q_vc fl_X11 ld Γ q_T rk Rt sk S (n + 1) ((.getfield 36, nx, tg) :: r) pc ls (.inr (.inr 85) :: st) μ = q_vc fl_X11 ld Γ q_T rk Rt sk S n r nx ls (.inr (.inr 92) :: st) μ := propext ⟨fun h => h.2, fun h => ⟨rfl, h⟩⟩
theorem fl_X11_36 : fl_X11 36 = (11, 11) := id rfl
theorem g_X11_39 {ld : Nat → QV} {Γ : Nat → Nat × QP} {rk : Nat} {Rt : Option QV → QM → Prop} {sk : Nat → Option (List QE)} {S : Nat → QL → List QV → QM → Prop} {n pc nx : Nat} {tg : List (Int × Nat)} {r : List QE} {ls : QL} {st : List QV} {μ : QM} : q_vc fl_X11 ld Γ q_T rk Rt sk S (n + 1) ((.getfield 39, nx, tg) :: r) pc ls (.inr (.inr 85) :: st) μ = q_vc fl_X11 ld Γ q_T rk Rt sk S n r nx ls (.inr (.inr 93) :: st) μ := propext ⟨fun h => h.2, fun h => ⟨rfl, h⟩⟩
theorem fl_X11_39 : fl_X11 39 = (11, 12) := id rfl
theorem g_X11_42 {ld : Nat → QV} {Γ : Nat → Nat × QP} {rk : Nat} {Rt : Option QV → QM → Prop} {sk : Nat → Option (List QE)} {S : Nat → QL → List QV → QM → Prop} {n pc nx : Nat} {tg : List (Int × Nat)} {r : List QE} {ls : QL} {st : List QV} {μ : QM} : q_vc fl_X11 ld Γ q_T rk Rt sk S (n + 1) ((.getfield 42, nx, tg) :: r) pc ls (.inr (.inr 85) :: st) μ = q_vc fl_X11 ld Γ q_T rk Rt sk S n r nx ls (.inr (.inr 94) :: st) μ := propext ⟨fun h => h.2, fun h => ⟨rfl, h⟩⟩
theorem fl_X11_42 : fl_X11 42 = (11, 13) := id rfl
theorem g_X11_45 {ld : Nat → QV} {Γ : Nat → Nat × QP} {rk : Nat} {Rt : Option QV → QM → Prop} {sk : Nat → Option (List QE)} {S : Nat → QL → List QV → QM → Prop} {n pc nx : Nat} {tg : List (Int × Nat)} {r : List QE} {ls : QL} {st : List QV} {μ : QM} : q_vc fl_X11 ld Γ q_T rk Rt sk S (n + 1) ((.getfield 45, nx, tg) :: r) pc ls (.inr (.inr 85) :: st) μ = q_vc fl_X11 ld Γ q_T rk Rt sk S n r nx ls (.inr (.inr 95) :: st) μ := propext ⟨fun h => h.2, fun h => ⟨rfl, h⟩⟩
theorem fl_X11_45 : fl_X11 45 = (11, 15) := id rfl
theorem g_X11_48 {ld : Nat → QV} {Γ : Nat → Nat × QP} {rk : Nat} {Rt : Option QV → QM → Prop} {sk : Nat → Option (List QE)} {S : Nat → QL → List QV → QM → Prop} {n pc nx : Nat} {tg : List (Int × Nat)} {r : List QE} {ls : QL} {st : List QV} {μ : QM} : q_vc fl_X11 ld Γ q_T rk Rt sk S (n + 1) ((.getfield 48, nx, tg) :: r) pc ls (.inr (.inr 85) :: st) μ = q_vc fl_X11 ld Γ q_T rk Rt sk S n r nx ls (.inr (.inr 96) :: st) μ := propext ⟨fun h => h.2, fun h => ⟨rfl, h⟩⟩
theorem fl_X11_48 : fl_X11 48 = (11, 16) := id rfl
theorem g_X11_51 {ld : Nat → QV} {Γ : Nat → Nat × QP} {rk : Nat} {Rt : Option QV → QM → Prop} {sk : Nat → Option (List QE)} {S : Nat → QL → List QV → QM → Prop} {n pc nx : Nat} {tg : List (Int × Nat)} {r : List QE} {ls : QL} {st : List QV} {μ : QM} : q_vc fl_X11 ld Γ q_T rk Rt sk S (n + 1) ((.getfield 51, nx, tg) :: r) pc ls (.inr (.inr 85) :: st) μ = q_vc fl_X11 ld Γ q_T rk Rt sk S n r nx ls (.inr (.inr 97) :: st) μ := propext ⟨fun h => h.2, fun h => ⟨rfl, h⟩⟩
theorem fl_X11_51 : fl_X11 51 = (11, 21) := id rfl
theorem g_X11_55 {ld : Nat → QV} {Γ : Nat → Nat × QP} {rk : Nat} {Rt : Option QV → QM → Prop} {sk : Nat → Option (List QE)} {S : Nat → QL → List QV → QM → Prop} {n pc nx : Nat} {tg : List (Int × Nat)} {r : List QE} {ls : QL} {st : List QV} {μ : QM} : q_vc fl_X11 ld Γ q_T rk Rt sk S (n + 1) ((.getfield 55, nx, tg) :: r) pc ls (.inr (.inr 85) :: st) μ = q_vc fl_X11 ld Γ q_T rk Rt sk S n r nx ls (.inr (.inr 98) :: st) μ := propext ⟨fun h => h.2, fun h => ⟨rfl, h⟩⟩
theorem fl_X11_55 : fl_X11 55 = (11, 22) := id rfl
theorem g_X11_58 {ld : Nat → QV} {Γ : Nat → Nat × QP} {rk : Nat} {Rt : Option QV → QM → Prop} {sk : Nat → Option (List QE)} {S : Nat → QL → List QV → QM → Prop} {n pc nx : Nat} {tg : List (Int × Nat)} {r : List QE} {ls : QL} {st : List QV} {μ : QM} : q_vc fl_X11 ld Γ q_T rk Rt sk S (n + 1) ((.getfield 58, nx, tg) :: r) pc ls (.inr (.inr 85) :: st) μ = q_vc fl_X11 ld Γ q_T rk Rt sk S n r nx ls (.inr (.inr 99) :: st) μ := propext ⟨fun h => h.2, fun h => ⟨rfl, h⟩⟩
theorem fl_X11_58 : fl_X11 58 = (11, 24) := id rfl
theorem g_X11_61 {ld : Nat → QV} {Γ : Nat → Nat × QP} {rk : Nat} {Rt : Option QV → QM → Prop} {sk : Nat → Option (List QE)} {S : Nat → QL → List QV → QM → Prop} {n pc nx : Nat} {tg : List (Int × Nat)} {r : List QE} {ls : QL} {st : List QV} {μ : QM} : q_vc fl_X11 ld Γ q_T rk Rt sk S (n + 1) ((.getfield 61, nx, tg) :: r) pc ls (.inr (.inr 85) :: st) μ = q_vc fl_X11 ld Γ q_T rk Rt sk S n r nx ls (.inr (.inr 100) :: st) μ := propext ⟨fun h => h.2, fun h => ⟨rfl, h⟩⟩
theorem fl_X11_61 : fl_X11 61 = (11, 25) := id rfl
theorem g_X11_64 {ld : Nat → QV} {Γ : Nat → Nat × QP} {rk : Nat} {Rt : Option QV → QM → Prop} {sk : Nat → Option (List QE)} {S : Nat → QL → List QV → QM → Prop} {n pc nx : Nat} {tg : List (Int × Nat)} {r : List QE} {ls : QL} {st : List QV} {μ : QM} : q_vc fl_X11 ld Γ q_T rk Rt sk S (n + 1) ((.getfield 64, nx, tg) :: r) pc ls (.inr (.inr 85) :: st) μ = q_vc fl_X11 ld Γ q_T rk Rt sk S n r nx ls (.inr (.inr 101) :: st) μ := propext ⟨fun h => h.2, fun h => ⟨rfl, h⟩⟩
theorem fl_X11_64 : fl_X11 64 = (11, 26) := id rfl
theorem g_X11_67 {ld : Nat → QV} {Γ : Nat → Nat × QP} {rk : Nat} {Rt : Option QV → QM → Prop} {sk : Nat → Option (List QE)} {S : Nat → QL → List QV → QM → Prop} {n pc nx : Nat} {tg : List (Int × Nat)} {r : List QE} {ls : QL} {st : List QV} {μ : QM} : q_vc fl_X11 ld Γ q_T rk Rt sk S (n + 1) ((.getfield 67, nx, tg) :: r) pc ls (.inr (.inr 85) :: st) μ = q_vc fl_X11 ld Γ q_T rk Rt sk S n r nx ls (.inr (.inr 102) :: st) μ := propext ⟨fun h => h.2, fun h => ⟨rfl, h⟩⟩
theorem fl_X11_67 : fl_X11 67 = (11, 27) := id rfl
theorem g_X11_70 {ld : Nat → QV} {Γ : Nat → Nat × QP} {rk : Nat} {Rt : Option QV → QM → Prop} {sk : Nat → Option (List QE)} {S : Nat → QL → List QV → QM → Prop} {n pc nx : Nat} {tg : List (Int × Nat)} {r : List QE} {ls : QL} {st : List QV} {μ : QM} : q_vc fl_X11 ld Γ q_T rk Rt sk S (n + 1) ((.getfield 70, nx, tg) :: r) pc ls (.inr (.inr 85) :: st) μ = q_vc fl_X11 ld Γ q_T rk Rt sk S n r nx ls (.inr (.inr 103) :: st) μ := propext ⟨fun h => h.2, fun h => ⟨rfl, h⟩⟩
theorem fl_X11_70 : fl_X11 70 = (11, 28) := id rfl
theorem g_X11_73 {ld : Nat → QV} {Γ : Nat → Nat × QP} {rk : Nat} {Rt : Option QV → QM → Prop} {sk : Nat → Option (List QE)} {S : Nat → QL → List QV → QM → Prop} {n pc nx : Nat} {tg : List (Int × Nat)} {r : List QE} {ls : QL} {st : List QV} {μ : QM} : q_vc fl_X11 ld Γ q_T rk Rt sk S (n + 1) ((.getfield 73, nx, tg) :: r) pc ls (.inr (.inr 85) :: st) μ = q_vc fl_X11 ld Γ q_T rk Rt sk S n r nx ls (.inr (.inr 104) :: st) μ := propext ⟨fun h => h.2, fun h => ⟨rfl, h⟩⟩
theorem fl_X11_73 : fl_X11 73 = (11, 29) := id rfl
theorem g_X11_76 {ld : Nat → QV} {Γ : Nat → Nat × QP} {rk : Nat} {Rt : Option QV → QM → Prop} {sk : Nat → Option (List QE)} {S : Nat → QL → List QV → QM → Prop} {n pc nx : Nat} {tg : List (Int × Nat)} {r : List QE} {ls : QL} {st : List QV} {μ : QM} : q_vc fl_X11 ld Γ q_T rk Rt sk S (n + 1) ((.getfield 76, nx, tg) :: r) pc ls (.inr (.inr 85) :: st) μ = q_vc fl_X11 ld Γ q_T rk Rt sk S n r nx ls (.inr (.inr 105) :: st) μ := propext ⟨fun h => h.2, fun h => ⟨rfl, h⟩⟩
theorem fl_X11_76 : fl_X11 76 = (11, 30) := id rfl
theorem g_X11_79 {ld : Nat → QV} {Γ : Nat → Nat × QP} {rk : Nat} {Rt : Option QV → QM → Prop} {sk : Nat → Option (List QE)} {S : Nat → QL → List QV → QM → Prop} {n pc nx : Nat} {tg : List (Int × Nat)} {r : List QE} {ls : QL} {st : List QV} {μ : QM} : q_vc fl_X11 ld Γ q_T rk Rt sk S (n + 1) ((.getfield 79, nx, tg) :: r) pc ls (.inr (.inr 85) :: st) μ = q_vc fl_X11 ld Γ q_T rk Rt sk S n r nx ls (.inl (μ 85 36) :: st) μ := propext ⟨fun h => h.2, fun h => ⟨rfl, h⟩⟩
theorem p_X11_79 {ld : Nat → QV} {Γ : Nat → Nat × QP} {rk : Nat} {Rt : Option QV → QM → Prop} {sk : Nat → Option (List QE)} {S : Nat → QL → List QV → QM → Prop} {n pc nx : Nat} {tg : List (Int × Nat)} {r : List QE} {ls : QL} {st : List QV} {μ : QM} {z : Int} : q_vc fl_X11 ld Γ q_T rk Rt sk S (n + 1) ((.putfield 79, nx, tg) :: r) pc ls (.inl z :: .inr (.inr 85) :: st) μ = (q_vc fl_X11 ld Γ q_T rk Rt sk S n r nx ls st (q_up μ 85 36 z)) := propext ⟨fun h => h.2, fun h => ⟨rfl, h⟩⟩
theorem fl_X11_79 : fl_X11 79 = (11, 36) := id rfl
theorem g_X11_85 {ld : Nat → QV} {Γ : Nat → Nat × QP} {rk : Nat} {Rt : Option QV → QM → Prop} {sk : Nat → Option (List QE)} {S : Nat → QL → List QV → QM → Prop} {n pc nx : Nat} {tg : List (Int × Nat)} {r : List QE} {ls : QL} {st : List QV} {μ : QM} : q_vc fl_X11 ld Γ q_T rk Rt sk S (n + 1) ((.getfield 85, nx, tg) :: r) pc ls (.inr (.inr 85) :: st) μ = q_vc fl_X11 ld Γ q_T rk Rt sk S n r nx ls (.inl (μ 85 0) :: st) μ := propext ⟨fun h => h.2, fun h => ⟨rfl, h⟩⟩
theorem p_X11_85 {ld : Nat → QV} {Γ : Nat → Nat × QP} {rk : Nat} {Rt : Option QV → QM → Prop} {sk : Nat → Option (List QE)} {S : Nat → QL → List QV → QM → Prop} {n pc nx : Nat} {tg : List (Int × Nat)} {r : List QE} {ls : QL} {st : List QV} {μ : QM} {z : Int} : q_vc fl_X11 ld Γ q_T rk Rt sk S (n + 1) ((.putfield 85, nx, tg) :: r) pc ls (.inl z :: .inr (.inr 85) :: st) μ = (q_vc fl_X11 ld Γ q_T rk Rt sk S n r nx ls st (q_up μ 85 0 z)) := propext ⟨fun h => h.2, fun h => ⟨rfl, h⟩⟩
theorem fl_X11_85 : fl_X11 85 = (11, 0) := id rfl
theorem g_X11_88 {ld : Nat → QV} {Γ : Nat → Nat × QP} {rk : Nat} {Rt : Option QV → QM → Prop} {sk : Nat → Option (List QE)} {S : Nat → QL → List QV → QM → Prop} {n pc nx : Nat} {tg : List (Int × Nat)} {r : List QE} {ls : QL} {st : List QV} {μ : QM} : q_vc fl_X11 ld Γ q_T rk Rt sk S (n + 1) ((.getfield 88, nx, tg) :: r) pc ls (.inr (.inr 85) :: st) μ = q_vc fl_X11 ld Γ q_T rk Rt sk S n r nx ls (.inl (μ 85 1) :: st) μ := propext ⟨fun h => h.2, fun h => ⟨rfl, h⟩⟩
theorem p_X11_88 {ld : Nat → QV} {Γ : Nat → Nat × QP} {rk : Nat} {Rt : Option QV → QM → Prop} {sk : Nat → Option (List QE)} {S : Nat → QL → List QV → QM → Prop} {n pc nx : Nat} {tg : List (Int × Nat)} {r : List QE} {ls : QL} {st : List QV} {μ : QM} {z : Int} : q_vc fl_X11 ld Γ q_T rk Rt sk S (n + 1) ((.putfield 88, nx, tg) :: r) pc ls (.inl z :: .inr (.inr 85) :: st) μ = (q_vc fl_X11 ld Γ q_T rk Rt sk S n r nx ls st (q_up μ 85 1 z)) := propext ⟨fun h => h.2, fun h => ⟨rfl, h⟩⟩
theorem fl_X11_88 : fl_X11 88 = (11, 1) := id rfl
theorem g_X11_125 {ld : Nat → QV} {Γ : Nat → Nat × QP} {rk : Nat} {Rt : Option QV → QM → Prop} {sk : Nat → Option (List QE)} {S : Nat → QL → List QV → QM → Prop} {n pc nx : Nat} {tg : List (Int × Nat)} {r : List QE} {ls : QL} {st : List QV} {μ : QM} : q_vc fl_X11 ld Γ q_T rk Rt sk S (n + 1) ((.getfield 125, nx, tg) :: r) pc ls (.inr (.inr 85) :: st) μ = q_vc fl_X11 ld Γ q_T rk Rt sk S n r nx ls (.inl (μ 85 7) :: st) μ := propext ⟨fun h => h.2, fun h => ⟨rfl, h⟩⟩
theorem p_X11_125 {ld : Nat → QV} {Γ : Nat → Nat × QP} {rk : Nat} {Rt : Option QV → QM → Prop} {sk : Nat → Option (List QE)} {S : Nat → QL → List QV → QM → Prop} {n pc nx : Nat} {tg : List (Int × Nat)} {r : List QE} {ls : QL} {st : List QV} {μ : QM} {z : Int} : q_vc fl_X11 ld Γ q_T rk Rt sk S (n + 1) ((.putfield 125, nx, tg) :: r) pc ls (.inl z :: .inr (.inr 85) :: st) μ = (q_vc fl_X11 ld Γ q_T rk Rt sk S n r nx ls st (q_up μ 85 7 z)) := propext ⟨fun h => h.2, fun h => ⟨rfl, h⟩⟩
theorem fl_X11_125 : fl_X11 125 = (11, 7) := id rfl
theorem g_X11_152 {ld : Nat → QV} {Γ : Nat → Nat × QP} {rk : Nat} {Rt : Option QV → QM → Prop} {sk : Nat → Option (List QE)} {S : Nat → QL → List QV → QM → Prop} {n pc nx : Nat} {tg : List (Int × Nat)} {r : List QE} {ls : QL} {st : List QV} {μ : QM} : q_vc fl_X11 ld Γ q_T rk Rt sk S (n + 1) ((.getfield 152, nx, tg) :: r) pc ls (.inr (.inr 85) :: st) μ = q_vc fl_X11 ld Γ q_T rk Rt sk S n r nx ls (.inl (μ 85 14) :: st) μ := propext ⟨fun h => h.2, fun h => ⟨rfl, h⟩⟩
theorem p_X11_152 {ld : Nat → QV} {Γ : Nat → Nat × QP} {rk : Nat} {Rt : Option QV → QM → Prop} {sk : Nat → Option (List QE)} {S : Nat → QL → List QV → QM → Prop} {n pc nx : Nat} {tg : List (Int × Nat)} {r : List QE} {ls : QL} {st : List QV} {μ : QM} {z : Int} : q_vc fl_X11 ld Γ q_T rk Rt sk S (n + 1) ((.putfield 152, nx, tg) :: r) pc ls (.inl z :: .inr (.inr 85) :: st) μ = (q_vc fl_X11 ld Γ q_T rk Rt sk S n r nx ls st (q_up μ 85 14 z)) := propext ⟨fun h => h.2, fun h => ⟨rfl, h⟩⟩
theorem fl_X11_152 : fl_X11 152 = (11, 14) := id rfl
theorem g_X11_155 {ld : Nat → QV} {Γ : Nat → Nat × QP} {rk : Nat} {Rt : Option QV → QM → Prop} {sk : Nat → Option (List QE)} {S : Nat → QL → List QV → QM → Prop} {n pc nx : Nat} {tg : List (Int × Nat)} {r : List QE} {ls : QL} {st : List QV} {μ : QM} : q_vc fl_X11 ld Γ q_T rk Rt sk S (n + 1) ((.getfield 155, nx, tg) :: r) pc ls (.inr (.inr 85) :: st) μ = q_vc fl_X11 ld Γ q_T rk Rt sk S n r nx ls (.inl (μ 85 17) :: st) μ := propext ⟨fun h => h.2, fun h => ⟨rfl, h⟩⟩
theorem p_X11_155 {ld : Nat → QV} {Γ : Nat → Nat × QP} {rk : Nat} {Rt : Option QV → QM → Prop} {sk : Nat → Option (List QE)} {S : Nat → QL → List QV → QM → Prop} {n pc nx : Nat} {tg : List (Int × Nat)} {r : List QE} {ls : QL} {st : List QV} {μ : QM} {z : Int} : q_vc fl_X11 ld Γ q_T rk Rt sk S (n + 1) ((.putfield 155, nx, tg) :: r) pc ls (.inl z :: .inr (.inr 85) :: st) μ = (q_vc fl_X11 ld Γ q_T rk Rt sk S n r nx ls st (q_up μ 85 17 z)) := propext ⟨fun h => h.2, fun h => ⟨rfl, h⟩⟩
theorem fl_X11_155 : fl_X11 155 = (11, 17) := id rfl
theorem g_X11_158 {ld : Nat → QV} {Γ : Nat → Nat × QP} {rk : Nat} {Rt : Option QV → QM → Prop} {sk : Nat → Option (List QE)} {S : Nat → QL → List QV → QM → Prop} {n pc nx : Nat} {tg : List (Int × Nat)} {r : List QE} {ls : QL} {st : List QV} {μ : QM} : q_vc fl_X11 ld Γ q_T rk Rt sk S (n + 1) ((.getfield 158, nx, tg) :: r) pc ls (.inr (.inr 85) :: st) μ = q_vc fl_X11 ld Γ q_T rk Rt sk S n r nx ls (.inr (.inl (μ 85 18)) :: st) μ := propext ⟨fun h => h.2, fun h => ⟨rfl, h⟩⟩
theorem p_X11_158 {ld : Nat → QV} {Γ : Nat → Nat × QP} {rk : Nat} {Rt : Option QV → QM → Prop} {sk : Nat → Option (List QE)} {S : Nat → QL → List QV → QM → Prop} {n pc nx : Nat} {tg : List (Int × Nat)} {r : List QE} {ls : QL} {st : List QV} {μ : QM} {z : Int} : q_vc fl_X11 ld Γ q_T rk Rt sk S (n + 1) ((.putfield 158, nx, tg) :: r) pc ls (.inr (.inl z) :: .inr (.inr 85) :: st) μ = (q_vc fl_X11 ld Γ q_T rk Rt sk S n r nx ls st (q_up μ 85 18 z)) := propext ⟨fun h => h.2, fun h => ⟨rfl, h⟩⟩
theorem fl_X11_158 : fl_X11 158 = (11, 18) := id rfl
theorem g_X11_162 {ld : Nat → QV} {Γ : Nat → Nat × QP} {rk : Nat} {Rt : Option QV → QM → Prop} {sk : Nat → Option (List QE)} {S : Nat → QL → List QV → QM → Prop} {n pc nx : Nat} {tg : List (Int × Nat)} {r : List QE} {ls : QL} {st : List QV} {μ : QM} : q_vc fl_X11 ld Γ q_T rk Rt sk S (n + 1) ((.getfield 162, nx, tg) :: r) pc ls (.inr (.inr 85) :: st) μ = q_vc fl_X11 ld Γ q_T rk Rt sk S n r nx ls (.inr (.inl (μ 85 19)) :: st) μ := propext ⟨fun h => h.2, fun h => ⟨rfl, h⟩⟩
theorem p_X11_162 {ld : Nat → QV} {Γ : Nat → Nat × QP} {rk : Nat} {Rt : Option QV → QM → Prop} {sk : Nat → Option (List QE)} {S : Nat → QL → List QV → QM → Prop} {n pc nx : Nat} {tg : List (Int × Nat)} {r : List QE} {ls : QL} {st : List QV} {μ : QM} {z : Int} : q_vc fl_X11 ld Γ q_T rk Rt sk S (n + 1) ((.putfield 162, nx, tg) :: r) pc ls (.inr (.inl z) :: .inr (.inr 85) :: st) μ = (q_vc fl_X11 ld Γ q_T rk Rt sk S n r nx ls st (q_up μ 85 19 z)) := propext ⟨fun h => h.2, fun h => ⟨rfl, h⟩⟩
theorem fl_X11_162 : fl_X11 162 = (11, 19) := id rfl
theorem g_X11_165 {ld : Nat → QV} {Γ : Nat → Nat × QP} {rk : Nat} {Rt : Option QV → QM → Prop} {sk : Nat → Option (List QE)} {S : Nat → QL → List QV → QM → Prop} {n pc nx : Nat} {tg : List (Int × Nat)} {r : List QE} {ls : QL} {st : List QV} {μ : QM} : q_vc fl_X11 ld Γ q_T rk Rt sk S (n + 1) ((.getfield 165, nx, tg) :: r) pc ls (.inr (.inr 85) :: st) μ = q_vc fl_X11 ld Γ q_T rk Rt sk S n r nx ls (.inr (.inl (μ 85 20)) :: st) μ := propext ⟨fun h => h.2, fun h => ⟨rfl, h⟩⟩
theorem p_X11_165 {ld : Nat → QV} {Γ : Nat → Nat × QP} {rk : Nat} {Rt : Option QV → QM → Prop} {sk : Nat → Option (List QE)} {S : Nat → QL → List QV → QM → Prop} {n pc nx : Nat} {tg : List (Int × Nat)} {r : List QE} {ls : QL} {st : List QV} {μ : QM} {z : Int} : q_vc fl_X11 ld Γ q_T rk Rt sk S (n + 1) ((.putfield 165, nx, tg) :: r) pc ls (.inr (.inl z) :: .inr (.inr 85) :: st) μ = (q_vc fl_X11 ld Γ q_T rk Rt sk S n r nx ls st (q_up μ 85 20 z)) := propext ⟨fun h => h.2, fun h => ⟨rfl, h⟩⟩
theorem fl_X11_165 : fl_X11 165 = (11, 20) := id rfl
theorem g_X11_218 {ld : Nat → QV} {Γ : Nat → Nat × QP} {rk : Nat} {Rt : Option QV → QM → Prop} {sk : Nat → Option (List QE)} {S : Nat → QL → List QV → QM → Prop} {n pc nx : Nat} {tg : List (Int × Nat)} {r : List QE} {ls : QL} {st : List QV} {μ : QM} : q_vc fl_X11 ld Γ q_T rk Rt sk S (n + 1) ((.getfield 218, nx, tg) :: r) pc ls (.inr (.inr 85) :: st) μ = q_vc fl_X11 ld Γ q_T rk Rt sk S n r nx ls (.inl (μ 85 31) :: st) μ := propext ⟨fun h => h.2, fun h => ⟨rfl, h⟩⟩
theorem p_X11_218 {ld : Nat → QV} {Γ : Nat → Nat × QP} {rk : Nat} {Rt : Option QV → QM → Prop} {sk : Nat → Option (List QE)} {S : Nat → QL → List QV → QM → Prop} {n pc nx : Nat} {tg : List (Int × Nat)} {r : List QE} {ls : QL} {st : List QV} {μ : QM} {z : Int} : q_vc fl_X11 ld Γ q_T rk Rt sk S (n + 1) ((.putfield 218, nx, tg) :: r) pc ls (.inl z :: .inr (.inr 85) :: st) μ = (q_vc fl_X11 ld Γ q_T rk Rt sk S n r nx ls st (q_up μ 85 31 z)) := propext ⟨fun h => h.2, fun h => ⟨rfl, h⟩⟩
theorem fl_X11_218 : fl_X11 218 = (11, 31) := id rfl
theorem g_X11_224 {ld : Nat → QV} {Γ : Nat → Nat × QP} {rk : Nat} {Rt : Option QV → QM → Prop} {sk : Nat → Option (List QE)} {S : Nat → QL → List QV → QM → Prop} {n pc nx : Nat} {tg : List (Int × Nat)} {r : List QE} {ls : QL} {st : List QV} {μ : QM} : q_vc fl_X11 ld Γ q_T rk Rt sk S (n + 1) ((.getfield 224, nx, tg) :: r) pc ls (.inr (.inr 85) :: st) μ = q_vc fl_X11 ld Γ q_T rk Rt sk S n r nx ls (.inl (μ 85 33) :: st) μ := propext ⟨fun h => h.2, fun h => ⟨rfl, h⟩⟩
theorem p_X11_224 {ld : Nat → QV} {Γ : Nat → Nat × QP} {rk : Nat} {Rt : Option QV → QM → Prop} {sk : Nat → Option (List QE)} {S : Nat → QL → List QV → QM → Prop} {n pc nx : Nat} {tg : List (Int × Nat)} {r : List QE} {ls : QL} {st : List QV} {μ : QM} {z : Int} : q_vc fl_X11 ld Γ q_T rk Rt sk S (n + 1) ((.putfield 224, nx, tg) :: r) pc ls (.inl z :: .inr (.inr 85) :: st) μ = (q_vc fl_X11 ld Γ q_T rk Rt sk S n r nx ls st (q_up μ 85 33 z)) := propext ⟨fun h => h.2, fun h => ⟨rfl, h⟩⟩
theorem fl_X11_224 : fl_X11 224 = (11, 33) := id rfl
theorem g_X11_227 {ld : Nat → QV} {Γ : Nat → Nat × QP} {rk : Nat} {Rt : Option QV → QM → Prop} {sk : Nat → Option (List QE)} {S : Nat → QL → List QV → QM → Prop} {n pc nx : Nat} {tg : List (Int × Nat)} {r : List QE} {ls : QL} {st : List QV} {μ : QM} : q_vc fl_X11 ld Γ q_T rk Rt sk S (n + 1) ((.getfield 227, nx, tg) :: r) pc ls (.inr (.inr 85) :: st) μ = q_vc fl_X11 ld Γ q_T rk Rt sk S n r nx ls (.inl (μ 85 32) :: st) μ := propext ⟨fun h => h.2, fun h => ⟨rfl, h⟩⟩
theorem p_X11_227 {ld : Nat → QV} {Γ : Nat → Nat × QP} {rk : Nat} {Rt : Option QV → QM → Prop} {sk : Nat → Option (List QE)} {S : Nat → QL → List QV → QM → Prop} {n pc nx : Nat} {tg : List (Int × Nat)} {r : List QE} {ls : QL} {st : List QV} {μ : QM} {z : Int} : q_vc fl_X11 ld Γ q_T rk Rt sk S (n + 1) ((.putfield 227, nx, tg) :: r) pc ls (.inl z :: .inr (.inr 85) :: st) μ = (q_vc fl_X11 ld Γ q_T rk Rt sk S n r nx ls st (q_up μ 85 32 z)) := propext ⟨fun h => h.2, fun h => ⟨rfl, h⟩⟩
theorem fl_X11_227 : fl_X11 227 = (11, 32) := id rfl
theorem g_X11_230 {ld : Nat → QV} {Γ : Nat → Nat × QP} {rk : Nat} {Rt : Option QV → QM → Prop} {sk : Nat → Option (List QE)} {S : Nat → QL → List QV → QM → Prop} {n pc nx : Nat} {tg : List (Int × Nat)} {r : List QE} {ls : QL} {st : List QV} {μ : QM} : q_vc fl_X11 ld Γ q_T rk Rt sk S (n + 1) ((.getfield 230, nx, tg) :: r) pc ls (.inr (.inr 85) :: st) μ = q_vc fl_X11 ld Γ q_T rk Rt sk S n r nx ls (.inr (.inl (μ 85 35)) :: st) μ := propext ⟨fun h => h.2, fun h => ⟨rfl, h⟩⟩
theorem p_X11_230 {ld : Nat → QV} {Γ : Nat → Nat × QP} {rk : Nat} {Rt : Option QV → QM → Prop} {sk : Nat → Option (List QE)} {S : Nat → QL → List QV → QM → Prop} {n pc nx : Nat} {tg : List (Int × Nat)} {r : List QE} {ls : QL} {st : List QV} {μ : QM} {z : Int} : q_vc fl_X11 ld Γ q_T rk Rt sk S (n + 1) ((.putfield 230, nx, tg) :: r) pc ls (.inr (.inl z) :: .inr (.inr 85) :: st) μ = (q_vc fl_X11 ld Γ q_T rk Rt sk S n r nx ls st (q_up μ 85 35 z)) := propext ⟨fun h => h.2, fun h => ⟨rfl, h⟩⟩
theorem fl_X11_230 : fl_X11 230 = (11, 35) := id rfl
theorem g_X11_239 {ld : Nat → QV} {Γ : Nat → Nat × QP} {rk : Nat} {Rt : Option QV → QM → Prop} {sk : Nat → Option (List QE)} {S : Nat → QL → List QV → QM → Prop} {n pc nx : Nat} {tg : List (Int × Nat)} {r : List QE} {ls : QL} {st : List QV} {μ : QM} : q_vc fl_X11 ld Γ q_T rk Rt sk S (n + 1) ((.getfield 239, nx, tg) :: r) pc ls (.inr (.inr 85) :: st) μ = q_vc fl_X11 ld Γ q_T rk Rt sk S n r nx ls (.inl (μ 85 34) :: st) μ := propext ⟨fun h => h.2, fun h => ⟨rfl, h⟩⟩
theorem p_X11_239 {ld : Nat → QV} {Γ : Nat → Nat × QP} {rk : Nat} {Rt : Option QV → QM → Prop} {sk : Nat → Option (List QE)} {S : Nat → QL → List QV → QM → Prop} {n pc nx : Nat} {tg : List (Int × Nat)} {r : List QE} {ls : QL} {st : List QV} {μ : QM} {z : Int} : q_vc fl_X11 ld Γ q_T rk Rt sk S (n + 1) ((.putfield 239, nx, tg) :: r) pc ls (.inl z :: .inr (.inr 85) :: st) μ = (q_vc fl_X11 ld Γ q_T rk Rt sk S n r nx ls st (q_up μ 85 34 z)) := propext ⟨fun h => h.2, fun h => ⟨rfl, h⟩⟩
theorem fl_X11_239 : fl_X11 239 = (11, 34) := id rfl
theorem g_X11_250 {ld : Nat → QV} {Γ : Nat → Nat × QP} {rk : Nat} {Rt : Option QV → QM → Prop} {sk : Nat → Option (List QE)} {S : Nat → QL → List QV → QM → Prop} {n pc nx : Nat} {tg : List (Int × Nat)} {r : List QE} {ls : QL} {st : List QV} {μ : QM} : q_vc fl_X11 ld Γ q_T rk Rt sk S (n + 1) ((.getfield 250, nx, tg) :: r) pc ls (.inr (.inr 85) :: st) μ = q_vc fl_X11 ld Γ q_T rk Rt sk S n r nx ls (.inl (μ 85 37) :: st) μ := propext ⟨fun h => h.2, fun h => ⟨rfl, h⟩⟩
theorem p_X11_250 {ld : Nat → QV} {Γ : Nat → Nat × QP} {rk : Nat} {Rt : Option QV → QM → Prop} {sk : Nat → Option (List QE)} {S : Nat → QL → List QV → QM → Prop} {n pc nx : Nat} {tg : List (Int × Nat)} {r : List QE} {ls : QL} {st : List QV} {μ : QM} {z : Int} : q_vc fl_X11 ld Γ q_T rk Rt sk S (n + 1) ((.putfield 250, nx, tg) :: r) pc ls (.inl z :: .inr (.inr 85) :: st) μ = ((z = 0 ∨ z = 1) ∧ q_vc fl_X11 ld Γ q_T rk Rt sk S n r nx ls st (q_up μ 85 37 z)) := propext ⟨fun h => h.2, fun h => ⟨rfl, h⟩⟩
theorem fl_X11_250 : fl_X11 250 = (11, 37) := id rfl
theorem g_X11_269 {ld : Nat → QV} {Γ : Nat → Nat × QP} {rk : Nat} {Rt : Option QV → QM → Prop} {sk : Nat → Option (List QE)} {S : Nat → QL → List QV → QM → Prop} {n pc nx : Nat} {tg : List (Int × Nat)} {r : List QE} {ls : QL} {st : List QV} {μ : QM} : q_vc fl_X11 ld Γ q_T rk Rt sk S (n + 1) ((.getfield 269, nx, tg) :: r) pc ls (.inr (.inr 85) :: st) μ = q_vc fl_X11 ld Γ q_T rk Rt sk S n r nx ls (.inl (μ 85 23) :: st) μ := propext ⟨fun h => h.2, fun h => ⟨rfl, h⟩⟩
theorem p_X11_269 {ld : Nat → QV} {Γ : Nat → Nat × QP} {rk : Nat} {Rt : Option QV → QM → Prop} {sk : Nat → Option (List QE)} {S : Nat → QL → List QV → QM → Prop} {n pc nx : Nat} {tg : List (Int × Nat)} {r : List QE} {ls : QL} {st : List QV} {μ : QM} {z : Int} : q_vc fl_X11 ld Γ q_T rk Rt sk S (n + 1) ((.putfield 269, nx, tg) :: r) pc ls (.inl z :: .inr (.inr 85) :: st) μ = (q_vc fl_X11 ld Γ q_T rk Rt sk S n r nx ls st (q_up μ 85 23 z)) := propext ⟨fun h => h.2, fun h => ⟨rfl, h⟩⟩
theorem fl_X11_269 : fl_X11 269 = (11, 23) := id rfl
def fl_J6 : Nat → Nat × Nat := fun i => match i with
  | _ => (99, 0)
def ld_J6 : Nat → QV := fun i => match i with
  | 265 => .inl (1431655765)
  | 266 => .inl (858993459)
  | 267 => .inl (252645135)
  | _ => .inl 0
theorem ld_J6_265 : ld_J6 265 = .inl (1431655765) := id rfl
theorem ld_J6_266 : ld_J6 266 = .inl (858993459) := id rfl
theorem ld_J6_267 : ld_J6 267 = .inl (252645135) := id rfl
def fl_J7 : Nat → Nat × Nat := fun i => match i with
  | _ => (99, 0)
def ld_J7 : Nat → QV := fun i => match i with
  | _ => .inl 0
def fl_J9 : Nat → Nat × Nat := fun i => match i with
  | _ => (99, 0)
def ld_J9 : Nat → QV := fun i => match i with
  | _ => .inl 0
end
section
def b_X0_shape_0 : List QE := [(.aload_n 0, 1, []), (.iload_n 1, 2, []), (.putfield 15, 5, []), (.aload_n 0, 6, []), (.iload_n 2, 7, []), (.putfield 19, 10, []), (.aload_n 0, 11, []), (.iconst 0, 12, []), (.putfield 22, 15, []), (.iconst 0, 16, []), (.istore_n 3, 17, [])]
def b_X0_shape_17 : List QE := [(.iload_n 3, 18, []), (.iload_n 2, 19, []), (.if_icmp .ge 41, 22, [(0, 60)])]
def b_X0_shape_22 : List QE := [(.iconst 0, 23, []), (.istore 4, 25, [])]
def b_X0_shape_25 : List QE := [(.iload 4, 27, []), (.iload_n 1, 28, []), (.if_icmp .ge 26, 31, [(0, 54)])]
def b_X0_shape_31 : List QE := [(.aload_n 0, 32, []), (.dup, 33, []), (.getfield 22, 36, []), (.iconst 1, 37, []), (.iload 4, 39, []), (.iload_n 3, 40, []), (.invokestatic 25, 43, []), (.ishl, 44, []), (.ior, 45, []), (.putfield 22, 48, []), (.iinc 4 4, 51, []), (.goto (-26), 54, [(0, 25)])]
def b_X0_shape_54 : List QE := [(.iinc 3 4, 57, []), (.goto (-40), 60, [(0, 17)])]
def b_X0_shape_60 : List QE := [(.return_, 61, [])]
def L_X0_shape : List (Nat × Option (List QE)) := [(0, some b_X0_shape_0), (17, none), (22, some b_X0_shape_22), (25, none), (31, some b_X0_shape_31), (54, some b_X0_shape_54), (60, some b_X0_shape_60)]
def s_X0_shape : Nat → Option (List QE) := q_look L_X0_shape
theorem s_X0_shape_0 : s_X0_shape 0 = some b_X0_shape_0 := id rfl
theorem s_X0_shape_17 : s_X0_shape 17 = none := id rfl
theorem s_X0_shape_22 : s_X0_shape 22 = some b_X0_shape_22 := id rfl
theorem s_X0_shape_25 : s_X0_shape 25 = none := id rfl
theorem s_X0_shape_31 : s_X0_shape 31 = some b_X0_shape_31 := id rfl
theorem s_X0_shape_54 : s_X0_shape 54 = some b_X0_shape_54 := id rfl
theorem s_X0_shape_60 : s_X0_shape 60 = some b_X0_shape_60 := id rfl
def u_X0_shape : QU := ([15, 19, 22], [15, 19, 22], [], [], [], [25], [])
theorem o_X0_shape : q_skok cX0_shape 5 u_X0_shape L_X0_shape = true := by decide +kernel
theorem o_X0_shape_25 : q_ok cX0_shape 5 u_X0_shape 25 b_X0_shape_25 = true := by decide +kernel
theorem o_X0_shape_17 : q_ok cX0_shape 5 u_X0_shape 17 b_X0_shape_17 = true := by decide +kernel
theorem k_X0_shape : q_chk RX0 fl_X0 ld_X0 u_X0_shape = true := by decide +kernel
def b_X0_hasCell_0 : List QE := [(.iload_n 1, 1, []), (.ifCond .lt 27, 4, [(0, 28)])]
def b_X0_hasCell_4 : List QE := [(.iload_n 1, 5, []), (.aload_n 0, 6, []), (.getfield 15, 9, []), (.if_icmp .ge 19, 12, [(0, 28)])]
def b_X0_hasCell_12 : List QE := [(.iload_n 2, 13, []), (.ifCond .lt 15, 16, [(0, 28)])]
def b_X0_hasCell_16 : List QE := [(.iload_n 2, 17, []), (.aload_n 0, 18, []), (.getfield 19, 21, []), (.if_icmp .ge 7, 24, [(0, 28)])]
def b_X0_hasCell_24 : List QE := [(.iconst 1, 25, []), (.goto 4, 28, [(0, 29)])]
def b_X0_hasCell_28 : List QE := [(.iconst 0, 29, [])]
def b_X0_hasCell_29 : List QE := [(.ireturn, 30, [])]
def L_X0_hasCell : List (Nat × Option (List QE)) := [(0, some b_X0_hasCell_0), (4, some b_X0_hasCell_4), (12, some b_X0_hasCell_12), (16, some b_X0_hasCell_16), (24, some b_X0_hasCell_24), (28, some b_X0_hasCell_28), (29, some b_X0_hasCell_29)]
def s_X0_hasCell : Nat → Option (List QE) := q_look L_X0_hasCell
theorem s_X0_hasCell_0 : s_X0_hasCell 0 = some b_X0_hasCell_0 := id rfl
theorem s_X0_hasCell_4 : s_X0_hasCell 4 = some b_X0_hasCell_4 := id rfl
theorem s_X0_hasCell_12 : s_X0_hasCell 12 = some b_X0_hasCell_12 := id rfl
theorem s_X0_hasCell_16 : s_X0_hasCell 16 = some b_X0_hasCell_16 := id rfl
theorem s_X0_hasCell_24 : s_X0_hasCell 24 = some b_X0_hasCell_24 := id rfl
theorem s_X0_hasCell_28 : s_X0_hasCell 28 = some b_X0_hasCell_28 := id rfl
theorem s_X0_hasCell_29 : s_X0_hasCell 29 = some b_X0_hasCell_29 := id rfl
def u_X0_hasCell : QU := ([15, 19], [], [], [], [], [], [])
theorem o_X0_hasCell : q_skok cX0_hasCell 3 u_X0_hasCell L_X0_hasCell = true := by decide +kernel
theorem k_X0_hasCell : q_chk RX0 fl_X0 ld_X0 u_X0_hasCell = true := by decide +kernel
def b_X0_hasTile_0 : List QE := [(.iload_n 1, 1, []), (.ifCond .lt 24, 4, [(0, 25)])]
def b_X0_hasTile_4 : List QE := [(.iload_n 1, 5, []), (.bipush 9, 7, []), (.if_icmp .ge 18, 10, [(0, 25)])]
def b_X0_hasTile_10 : List QE := [(.aload_n 0, 11, []), (.getfield 22, 14, []), (.iload_n 1, 15, []), (.ishr, 16, []), (.iconst 1, 17, []), (.iand, 18, []), (.ifCond .eq 7, 21, [(0, 25)])]
def b_X0_hasTile_21 : List QE := [(.iconst 1, 22, []), (.goto 4, 25, [(0, 26)])]
def b_X0_hasTile_25 : List QE := [(.iconst 0, 26, [])]
def b_X0_hasTile_26 : List QE := [(.ireturn, 27, [])]
def L_X0_hasTile : List (Nat × Option (List QE)) := [(0, some b_X0_hasTile_0), (4, some b_X0_hasTile_4), (10, some b_X0_hasTile_10), (21, some b_X0_hasTile_21), (25, some b_X0_hasTile_25), (26, some b_X0_hasTile_26)]
def s_X0_hasTile : Nat → Option (List QE) := q_look L_X0_hasTile
theorem s_X0_hasTile_0 : s_X0_hasTile 0 = some b_X0_hasTile_0 := id rfl
theorem s_X0_hasTile_4 : s_X0_hasTile 4 = some b_X0_hasTile_4 := id rfl
theorem s_X0_hasTile_10 : s_X0_hasTile 10 = some b_X0_hasTile_10 := id rfl
theorem s_X0_hasTile_21 : s_X0_hasTile 21 = some b_X0_hasTile_21 := id rfl
theorem s_X0_hasTile_25 : s_X0_hasTile 25 = some b_X0_hasTile_25 := id rfl
theorem s_X0_hasTile_26 : s_X0_hasTile 26 = some b_X0_hasTile_26 := id rfl
def u_X0_hasTile : QU := ([22], [], [], [], [], [], [])
theorem o_X0_hasTile : q_skok cX0_hasTile 2 u_X0_hasTile L_X0_hasTile = true := by decide +kernel
theorem k_X0_hasTile : q_chk RX0 fl_X0 ld_X0 u_X0_hasTile = true := by decide +kernel
def b_X0_leftOf_0 : List QE := [(.iload_n 1, 1, []), (.iconst 3, 2, []), (.irem, 3, []), (.iconst 4, 4, []), (.imul, 5, []), (.ireturn, 6, [])]
def L_X0_leftOf : List (Nat × Option (List QE)) := [(0, some b_X0_leftOf_0)]
def s_X0_leftOf : Nat → Option (List QE) := q_look L_X0_leftOf
theorem s_X0_leftOf_0 : s_X0_leftOf 0 = some b_X0_leftOf_0 := id rfl
def u_X0_leftOf : QU := ([], [], [], [], [], [], [])
theorem o_X0_leftOf : q_skok cX0_leftOf 2 u_X0_leftOf L_X0_leftOf = true := by decide +kernel
theorem k_X0_leftOf : q_chk RX0 fl_X0 ld_X0 u_X0_leftOf = true := by decide +kernel
def b_X0_rightOf_0 : List QE := [(.aload_n 0, 1, []), (.getfield 15, 4, []), (.aload_n 0, 5, []), (.iload_n 1, 6, []), (.invokevirtual 29, 9, []), (.iconst 4, 10, []), (.iadd, 11, []), (.invokestatic 33, 14, []), (.ireturn, 15, [])]
def L_X0_rightOf : List (Nat × Option (List QE)) := [(0, some b_X0_rightOf_0)]
def s_X0_rightOf : Nat → Option (List QE) := q_look L_X0_rightOf
theorem s_X0_rightOf_0 : s_X0_rightOf 0 = some b_X0_rightOf_0 := id rfl
def u_X0_rightOf : QU := ([15], [], [], [], [29], [33], [])
theorem o_X0_rightOf : q_skok cX0_rightOf 2 u_X0_rightOf L_X0_rightOf = true := by decide +kernel
theorem k_X0_rightOf : q_chk RX0 fl_X0 ld_X0 u_X0_rightOf = true := by decide +kernel
def b_X0_bottomOf_0 : List QE := [(.iload_n 1, 1, []), (.iconst 3, 2, []), (.idiv, 3, []), (.iconst 4, 4, []), (.imul, 5, []), (.ireturn, 6, [])]
def L_X0_bottomOf : List (Nat × Option (List QE)) := [(0, some b_X0_bottomOf_0)]
def s_X0_bottomOf : Nat → Option (List QE) := q_look L_X0_bottomOf
theorem s_X0_bottomOf_0 : s_X0_bottomOf 0 = some b_X0_bottomOf_0 := id rfl
def u_X0_bottomOf : QU := ([], [], [], [], [], [], [])
theorem o_X0_bottomOf : q_skok cX0_bottomOf 2 u_X0_bottomOf L_X0_bottomOf = true := by decide +kernel
theorem k_X0_bottomOf : q_chk RX0 fl_X0 ld_X0 u_X0_bottomOf = true := by decide +kernel
def b_X0_topOf_0 : List QE := [(.aload_n 0, 1, []), (.getfield 19, 4, []), (.aload_n 0, 5, []), (.iload_n 1, 6, []), (.invokevirtual 38, 9, []), (.iconst 4, 10, []), (.iadd, 11, []), (.invokestatic 33, 14, []), (.ireturn, 15, [])]
def L_X0_topOf : List (Nat × Option (List QE)) := [(0, some b_X0_topOf_0)]
def s_X0_topOf : Nat → Option (List QE) := q_look L_X0_topOf
theorem s_X0_topOf_0 : s_X0_topOf 0 = some b_X0_topOf_0 := id rfl
def u_X0_topOf : QU := ([19], [], [], [], [38], [33], [])
theorem o_X0_topOf : q_skok cX0_topOf 2 u_X0_topOf L_X0_topOf = true := by decide +kernel
theorem k_X0_topOf : q_chk RX0 fl_X0 ld_X0 u_X0_topOf = true := by decide +kernel
def b_X0_around_0 : List QE := [(.iload_n 1, 1, []), (.iload_n 1, 2, []), (.sipush (-293), 5, []), (.iand, 6, []), (.iconst 1, 7, []), (.ishl, 8, []), (.ior, 9, []), (.iload_n 1, 10, []), (.bipush (-74), 12, []), (.iand, 13, []), (.iconst 1, 14, []), (.ishr, 15, []), (.ior, 16, []), (.istore_n 2, 17, []), (.iload_n 2, 18, []), (.iload_n 2, 19, []), (.iconst 3, 20, []), (.ishl, 21, []), (.ior, 22, []), (.iload_n 2, 23, []), (.iconst 3, 24, []), (.ishr, 25, []), (.ior, 26, []), (.aload_n 0, 27, []), (.getfield 22, 30, []), (.iand, 31, []), (.ireturn, 32, [])]
def L_X0_around : List (Nat × Option (List QE)) := [(0, some b_X0_around_0)]
def s_X0_around : Nat → Option (List QE) := q_look L_X0_around
theorem s_X0_around_0 : s_X0_around 0 = some b_X0_around_0 := id rfl
def u_X0_around : QU := ([22], [], [], [], [], [], [])
theorem o_X0_around : q_skok cX0_around 3 u_X0_around L_X0_around = true := by decide +kernel
theorem k_X0_around : q_chk RX0 fl_X0 ld_X0 u_X0_around = true := by decide +kernel
def b_X1_makeTile_0 : List QE := [(.aload_n 0, 1, []), (.getfield 29, 4, []), (.iload_n 2, 5, []), (.invokevirtual 41, 8, []), (.istore 4, 10, []), (.aload_n 0, 11, []), (.getfield 29, 14, []), (.iload_n 2, 15, []), (.invokevirtual 47, 18, []), (.istore 5, 20, []), (.aload_n 0, 21, []), (.getfield 29, 24, []), (.iload_n 2, 25, []), (.invokevirtual 50, 28, []), (.istore 6, 30, [])]
def b_X1_makeTile_30 : List QE := [(.iload 6, 32, []), (.iload 5, 34, []), (.if_icmp .ge 74, 37, [(0, 108)])]
def b_X1_makeTile_37 : List QE := [(.aload_n 0, 38, []), (.getfield 29, 41, []), (.iload_n 2, 42, []), (.invokevirtual 53, 45, []), (.istore 7, 47, [])]
def b_X1_makeTile_47 : List QE := [(.iload 7, 49, []), (.iload 4, 51, []), (.if_icmp .ge 51, 54, [(0, 102)])]
def b_X1_makeTile_54 : List QE := [(.aload_n 3, 55, []), (.iload 7, 57, []), (.iload 6, 59, []), (.invokestatic 56, 62, []), (.aload_n 1, 63, []), (.getfield 60, 66, []), (.bipush 10, 68, []), (.if_icmp .ne 15, 71, [(0, 83)])]
def b_X1_makeTile_71 : List QE := [(.aload_n 0, 72, []), (.aload_n 1, 73, []), (.iload 7, 75, []), (.iload 6, 77, []), (.invokevirtual 66, 80, []), (.goto 15, 83, [(0, 95)])]
def b_X1_makeTile_83 : List QE := [(.aload_n 0, 84, []), (.aload_n 1, 85, []), (.iload 7, 87, []), (.iload 6, 89, []), (.invokestatic 56, 92, []), (.invokevirtual 70, 95, [])]
def b_X1_makeTile_95 : List QE := [(.iastore, 96, []), (.iinc 7 1, 99, []), (.goto (-52), 102, [(0, 47)])]
def b_X1_makeTile_102 : List QE := [(.iinc 6 1, 105, []), (.goto (-75), 108, [(0, 30)])]
def b_X1_makeTile_108 : List QE := [(.return_, 109, [])]
def L_X1_makeTile : List (Nat × Option (List QE)) := [(0, some b_X1_makeTile_0), (30, none), (37, some b_X1_makeTile_37), (47, none), (54, some b_X1_makeTile_54), (71, some b_X1_makeTile_71), (83, some b_X1_makeTile_83), (95, some b_X1_makeTile_95), (102, some b_X1_makeTile_102), (108, some b_X1_makeTile_108)]
def s_X1_makeTile : Nat → Option (List QE) := q_look L_X1_makeTile
theorem s_X1_makeTile_0 : s_X1_makeTile 0 = some b_X1_makeTile_0 := id rfl
theorem s_X1_makeTile_30 : s_X1_makeTile 30 = none := id rfl
theorem s_X1_makeTile_37 : s_X1_makeTile 37 = some b_X1_makeTile_37 := id rfl
theorem s_X1_makeTile_47 : s_X1_makeTile 47 = none := id rfl
theorem s_X1_makeTile_54 : s_X1_makeTile 54 = some b_X1_makeTile_54 := id rfl
theorem s_X1_makeTile_71 : s_X1_makeTile 71 = some b_X1_makeTile_71 := id rfl
theorem s_X1_makeTile_83 : s_X1_makeTile 83 = some b_X1_makeTile_83 := id rfl
theorem s_X1_makeTile_95 : s_X1_makeTile 95 = some b_X1_makeTile_95 := id rfl
theorem s_X1_makeTile_102 : s_X1_makeTile 102 = some b_X1_makeTile_102 := id rfl
theorem s_X1_makeTile_108 : s_X1_makeTile 108 = some b_X1_makeTile_108 := id rfl
def u_X1_makeTile : QU := ([29, 60], [], [], [], [41, 47, 50, 53, 66, 70], [56], [])
theorem o_X1_makeTile : q_skok cX1_makeTile 8 u_X1_makeTile L_X1_makeTile = true := by decide +kernel
theorem o_X1_makeTile_30 : q_ok cX1_makeTile 8 u_X1_makeTile 30 b_X1_makeTile_30 = true := by decide +kernel
theorem o_X1_makeTile_47 : q_ok cX1_makeTile 8 u_X1_makeTile 47 b_X1_makeTile_47 = true := by decide +kernel
theorem k_X1_makeTile : q_chk RX1 fl_X1 ld_X1 u_X1_makeTile = true := by decide +kernel
def b_X1_makeWhole_0 : List QE := [(.aload_n 0, 1, []), (.getfield 37, 4, []), (.aload_n 1, 5, []), (.getfield 74, 8, []), (.iconst 0, 9, []), (.iaload, 10, []), (.aaload, 11, []), (.astore_n 3, 12, []), (.aload_n 0, 13, []), (.getfield 37, 16, []), (.aload_n 1, 17, []), (.getfield 74, 20, []), (.iconst 1, 21, []), (.iaload, 22, []), (.aaload, 23, []), (.astore 4, 25, []), (.aload_n 1, 26, []), (.getfield 60, 29, []), (.lookupswitch 53 #[(7, 42), (11, 27)], 56, [(7, 71), (11, 56), (0, 82)])]
def b_X1_makeWhole_56 : List QE := [(.aload_n 0, 57, []), (.aload_n 1, 58, []), (.getfield 77, 61, []), (.aload_n 3, 62, []), (.aload 4, 64, []), (.aload_n 2, 65, []), (.invokevirtual 80, 68, []), (.goto 20, 71, [(0, 88)])]
def b_X1_makeWhole_71 : List QE := [(.aload_n 0, 72, []), (.aload_n 3, 73, []), (.aload 4, 75, []), (.aload_n 2, 76, []), (.invokevirtual 84, 79, []), (.goto 9, 82, [(0, 88)])]
def b_X1_makeWhole_82 : List QE := [(.aload_n 0, 83, []), (.aload_n 3, 84, []), (.aload_n 2, 85, []), (.invokevirtual 88, 88, [])]
def b_X1_makeWhole_88 : List QE := [(.return_, 89, [])]
def L_X1_makeWhole : List (Nat × Option (List QE)) := [(0, some b_X1_makeWhole_0), (56, some b_X1_makeWhole_56), (71, some b_X1_makeWhole_71), (82, some b_X1_makeWhole_82), (88, some b_X1_makeWhole_88)]
def s_X1_makeWhole : Nat → Option (List QE) := q_look L_X1_makeWhole
theorem s_X1_makeWhole_0 : s_X1_makeWhole 0 = some b_X1_makeWhole_0 := id rfl
theorem s_X1_makeWhole_56 : s_X1_makeWhole 56 = some b_X1_makeWhole_56 := id rfl
theorem s_X1_makeWhole_71 : s_X1_makeWhole 71 = some b_X1_makeWhole_71 := id rfl
theorem s_X1_makeWhole_82 : s_X1_makeWhole 82 = some b_X1_makeWhole_82 := id rfl
theorem s_X1_makeWhole_88 : s_X1_makeWhole 88 = some b_X1_makeWhole_88 := id rfl
def u_X1_makeWhole : QU := ([37, 74, 60, 77], [], [], [], [80, 84, 88], [], [])
theorem o_X1_makeWhole : q_skok cX1_makeWhole 5 u_X1_makeWhole L_X1_makeWhole = true := by decide +kernel
theorem k_X1_makeWhole : q_chk RX1 fl_X1 ld_X1 u_X1_makeWhole = true := by decide +kernel
def b_X1_single_0 : List QE := [(.aload_n 1, 1, []), (.getfield 60, 4, []), (.ifCond .ne 18, 7, [(0, 22)])]
def b_X1_single_7 : List QE := [(.aload_n 0, 8, []), (.getfield 33, 11, []), (.getfield 92, 14, []), (.aload_n 1, 15, []), (.getfield 97, 18, []), (.aaload, 19, []), (.iload_n 2, 20, []), (.iaload, 21, []), (.ireturn, 22, [])]
def b_X1_single_22 : List QE := [(.aload_n 0, 23, []), (.getfield 37, 26, []), (.aload_n 1, 27, []), (.getfield 74, 30, []), (.iconst 0, 31, []), (.iaload, 32, []), (.aaload, 33, []), (.iload_n 2, 34, []), (.iaload, 35, []), (.istore_n 3, 36, []), (.aload_n 1, 37, []), (.getfield 60, 40, []), (.bipush 9, 42, []), (.if_icmp .ne 18, 45, [(0, 60)])]
def b_X1_single_45 : List QE := [(.iload_n 3, 46, []), (.ldc 100, 48, []), (.if_icmp .ne 10, 51, [(0, 58)])]
def b_X1_single_51 : List QE := [(.aload_n 1, 52, []), (.getfield 97, 55, []), (.goto 4, 58, [(0, 59)])]
def b_X1_single_58 : List QE := [(.iload_n 3, 59, [])]
def b_X1_single_59 : List QE := [(.ireturn, 60, [])]
def b_X1_single_60 : List QE := [(.aload_n 0, 61, []), (.getfield 37, 64, []), (.aload_n 1, 65, []), (.getfield 74, 68, []), (.iconst 1, 69, []), (.iaload, 70, []), (.aaload, 71, []), (.iload_n 2, 72, []), (.iaload, 73, []), (.istore 4, 75, []), (.aload_n 1, 76, []), (.getfield 60, 79, []), (.bipush 8, 81, []), (.if_icmp .ne 41, 84, [(0, 122)])]
def b_X1_single_84 : List QE := [(.aload_n 0, 85, []), (.getfield 37, 88, []), (.aload_n 1, 89, []), (.getfield 74, 92, []), (.iconst 2, 93, []), (.iaload, 94, []), (.aaload, 95, []), (.iload_n 2, 96, []), (.iaload, 97, []), (.istore 5, 99, []), (.iload_n 3, 100, []), (.ldc 100, 102, []), (.if_icmp .ne 8, 105, [(0, 110)])]
def b_X1_single_105 : List QE := [(.ldc 100, 107, []), (.goto 14, 110, [(0, 121)])]
def b_X1_single_110 : List QE := [(.iload_n 3, 111, []), (.ifCond .le 8, 114, [(0, 119)])]
def b_X1_single_114 : List QE := [(.iload 4, 116, []), (.goto 5, 119, [(0, 121)])]
def b_X1_single_119 : List QE := [(.iload 5, 121, [])]
def b_X1_single_121 : List QE := [(.ireturn, 122, [])]
def b_X1_single_122 : List QE := [(.iload_n 3, 123, []), (.ldc 100, 125, []), (.if_icmp .eq 10, 128, [(0, 135)])]
def b_X1_single_128 : List QE := [(.iload 4, 130, []), (.ldc 100, 132, []), (.if_icmp .ne 8, 135, [(0, 140)])]
def b_X1_single_135 : List QE := [(.ldc 100, 137, []), (.goto 13, 140, [(0, 150)])]
def b_X1_single_140 : List QE := [(.aload_n 1, 141, []), (.getfield 60, 144, []), (.iload_n 3, 145, []), (.iload 4, 147, []), (.invokestatic 101, 150, [])]
def b_X1_single_150 : List QE := [(.ireturn, 151, [])]
def L_X1_single : List (Nat × Option (List QE)) := [(0, some b_X1_single_0), (7, some b_X1_single_7), (22, some b_X1_single_22), (45, some b_X1_single_45), (51, some b_X1_single_51), (58, some b_X1_single_58), (59, some b_X1_single_59), (60, some b_X1_single_60), (84, some b_X1_single_84), (105, some b_X1_single_105), (110, some b_X1_single_110), (114, some b_X1_single_114), (119, some b_X1_single_119), (121, some b_X1_single_121), (122, some b_X1_single_122), (128, some b_X1_single_128), (135, some b_X1_single_135), (140, some b_X1_single_140), (150, some b_X1_single_150)]
def s_X1_single : Nat → Option (List QE) := q_look L_X1_single
theorem s_X1_single_0 : s_X1_single 0 = some b_X1_single_0 := id rfl
theorem s_X1_single_7 : s_X1_single 7 = some b_X1_single_7 := id rfl
theorem s_X1_single_22 : s_X1_single 22 = some b_X1_single_22 := id rfl
theorem s_X1_single_45 : s_X1_single 45 = some b_X1_single_45 := id rfl
theorem s_X1_single_51 : s_X1_single 51 = some b_X1_single_51 := id rfl
theorem s_X1_single_58 : s_X1_single 58 = some b_X1_single_58 := id rfl
theorem s_X1_single_59 : s_X1_single 59 = some b_X1_single_59 := id rfl
theorem s_X1_single_60 : s_X1_single 60 = some b_X1_single_60 := id rfl
theorem s_X1_single_84 : s_X1_single 84 = some b_X1_single_84 := id rfl
theorem s_X1_single_105 : s_X1_single 105 = some b_X1_single_105 := id rfl
theorem s_X1_single_110 : s_X1_single 110 = some b_X1_single_110 := id rfl
theorem s_X1_single_114 : s_X1_single 114 = some b_X1_single_114 := id rfl
theorem s_X1_single_119 : s_X1_single 119 = some b_X1_single_119 := id rfl
theorem s_X1_single_121 : s_X1_single 121 = some b_X1_single_121 := id rfl
theorem s_X1_single_122 : s_X1_single 122 = some b_X1_single_122 := id rfl
theorem s_X1_single_128 : s_X1_single 128 = some b_X1_single_128 := id rfl
theorem s_X1_single_135 : s_X1_single 135 = some b_X1_single_135 := id rfl
theorem s_X1_single_140 : s_X1_single 140 = some b_X1_single_140 := id rfl
theorem s_X1_single_150 : s_X1_single 150 = some b_X1_single_150 := id rfl
def u_X1_single : QU := ([60, 33, 92, 97, 37, 74], [], [100], [], [], [101], [])
theorem o_X1_single : q_skok cX1_single 6 u_X1_single L_X1_single = true := by decide +kernel
theorem k_X1_single : q_chk RX1 fl_X1 ld_X1 u_X1_single = true := by decide +kernel
def b_X1_ofBoth_0 : List QE := [(.iload_n 0, 1, []), (.tableswitch 83 1 6 #[50, 59, 68, 77, 83, 39], 40, [(1, 51), (2, 60), (3, 69), (4, 78), (5, 84), (6, 40), (0, 84)])]
def b_X1_ofBoth_40 : List QE := [(.iload_n 2, 41, []), (.ifCond .le 7, 44, [(0, 48)])]
def b_X1_ofBoth_44 : List QE := [(.iload_n 1, 45, []), (.goto 5, 48, [(0, 50)])]
def b_X1_ofBoth_48 : List QE := [(.ldc 100, 50, [])]
def b_X1_ofBoth_50 : List QE := [(.ireturn, 51, [])]
def b_X1_ofBoth_51 : List QE := [(.iload_n 1, 52, []), (.i2l, 53, []), (.iload_n 2, 54, []), (.i2l, 55, []), (.ladd, 56, []), (.invokestatic 105, 59, []), (.ireturn, 60, [])]
def b_X1_ofBoth_60 : List QE := [(.iload_n 1, 61, []), (.i2l, 62, []), (.iload_n 2, 63, []), (.i2l, 64, []), (.lsub, 65, []), (.invokestatic 105, 68, []), (.ireturn, 69, [])]
def b_X1_ofBoth_69 : List QE := [(.iload_n 1, 70, []), (.i2l, 71, []), (.iload_n 2, 72, []), (.i2l, 73, []), (.lmul, 74, []), (.invokestatic 105, 77, []), (.ireturn, 78, [])]
def b_X1_ofBoth_78 : List QE := [(.iload_n 1, 79, []), (.iload_n 2, 80, []), (.invokestatic 109, 83, []), (.ireturn, 84, [])]
def b_X1_ofBoth_84 : List QE := [(.iload_n 1, 85, []), (.iload_n 2, 86, []), (.invokestatic 114, 89, []), (.ireturn, 90, [])]
def L_X1_ofBoth : List (Nat × Option (List QE)) := [(0, some b_X1_ofBoth_0), (40, some b_X1_ofBoth_40), (44, some b_X1_ofBoth_44), (48, some b_X1_ofBoth_48), (50, some b_X1_ofBoth_50), (51, some b_X1_ofBoth_51), (60, some b_X1_ofBoth_60), (69, some b_X1_ofBoth_69), (78, some b_X1_ofBoth_78), (84, some b_X1_ofBoth_84)]
def s_X1_ofBoth : Nat → Option (List QE) := q_look L_X1_ofBoth
theorem s_X1_ofBoth_0 : s_X1_ofBoth 0 = some b_X1_ofBoth_0 := id rfl
theorem s_X1_ofBoth_40 : s_X1_ofBoth 40 = some b_X1_ofBoth_40 := id rfl
theorem s_X1_ofBoth_44 : s_X1_ofBoth 44 = some b_X1_ofBoth_44 := id rfl
theorem s_X1_ofBoth_48 : s_X1_ofBoth 48 = some b_X1_ofBoth_48 := id rfl
theorem s_X1_ofBoth_50 : s_X1_ofBoth 50 = some b_X1_ofBoth_50 := id rfl
theorem s_X1_ofBoth_51 : s_X1_ofBoth 51 = some b_X1_ofBoth_51 := id rfl
theorem s_X1_ofBoth_60 : s_X1_ofBoth 60 = some b_X1_ofBoth_60 := id rfl
theorem s_X1_ofBoth_69 : s_X1_ofBoth 69 = some b_X1_ofBoth_69 := id rfl
theorem s_X1_ofBoth_78 : s_X1_ofBoth 78 = some b_X1_ofBoth_78 := id rfl
theorem s_X1_ofBoth_84 : s_X1_ofBoth 84 = some b_X1_ofBoth_84 := id rfl
def u_X1_ofBoth : QU := ([], [], [100], [], [], [105, 109, 114], [])
theorem o_X1_ofBoth : q_skok cX1_ofBoth 3 u_X1_ofBoth L_X1_ofBoth = true := by decide +kernel
theorem k_X1_ofBoth : q_chk RX1 fl_X1 ld_X1 u_X1_ofBoth = true := by decide +kernel
def b_X1_near_0 : List QE := [(.aload_n 0, 1, []), (.getfield 37, 4, []), (.aload_n 1, 5, []), (.getfield 74, 8, []), (.iconst 0, 9, []), (.iaload, 10, []), (.aaload, 11, []), (.astore 4, 13, []), (.aload_n 1, 14, []), (.getfield 97, 17, []), (.istore 5, 19, []), (.aload_n 0, 20, []), (.getfield 29, 23, []), (.getfield 117, 26, []), (.iconst 1, 27, []), (.isub, 28, []), (.iload_n 2, 29, []), (.iload 5, 31, []), (.iadd, 32, []), (.invokestatic 109, 35, []), (.istore 6, 37, []), (.aload_n 0, 38, []), (.getfield 29, 41, []), (.getfield 120, 44, []), (.iconst 1, 45, []), (.isub, 46, []), (.iload_n 3, 47, []), (.iload 5, 49, []), (.iadd, 50, []), (.invokestatic 109, 53, []), (.istore 7, 55, []), (.aload_n 0, 56, []), (.getfield 12, 59, []), (.invokevirtual 123, 62, []), (.iconst 0, 63, []), (.iload_n 3, 64, []), (.iload 5, 66, []), (.isub, 67, []), (.invokestatic 114, 70, []), (.istore 8, 72, [])]
def b_X1_near_72 : List QE := [(.iload 8, 74, []), (.iload 7, 76, []), (.if_icmp .gt 49, 79, [(0, 125)])]
def b_X1_near_79 : List QE := [(.iconst 0, 80, []), (.iload_n 2, 81, []), (.iload 5, 83, []), (.isub, 84, []), (.invokestatic 114, 87, []), (.istore 9, 89, [])]
def b_X1_near_89 : List QE := [(.iload 9, 91, []), (.iload 6, 93, []), (.if_icmp .gt 26, 96, [(0, 119)])]
def b_X1_near_96 : List QE := [(.aload_n 0, 97, []), (.getfield 12, 100, []), (.aload 4, 102, []), (.iload 9, 104, []), (.iload 8, 106, []), (.invokestatic 56, 109, []), (.iaload, 110, []), (.invokevirtual 126, 113, []), (.iinc 9 1, 116, []), (.goto (-27), 119, [(0, 89)])]
def b_X1_near_119 : List QE := [(.iinc 8 1, 122, []), (.goto (-50), 125, [(0, 72)])]
def b_X1_near_125 : List QE := [(.aload_n 0, 126, []), (.getfield 12, 129, []), (.aload_n 1, 130, []), (.getfield 77, 133, []), (.invokevirtual 130, 136, []), (.ireturn, 137, [])]
def L_X1_near : List (Nat × Option (List QE)) := [(0, some b_X1_near_0), (72, none), (79, some b_X1_near_79), (89, none), (96, some b_X1_near_96), (119, some b_X1_near_119), (125, some b_X1_near_125)]
def s_X1_near : Nat → Option (List QE) := q_look L_X1_near
theorem s_X1_near_0 : s_X1_near 0 = some b_X1_near_0 := id rfl
theorem s_X1_near_72 : s_X1_near 72 = none := id rfl
theorem s_X1_near_79 : s_X1_near 79 = some b_X1_near_79 := id rfl
theorem s_X1_near_89 : s_X1_near 89 = none := id rfl
theorem s_X1_near_96 : s_X1_near 96 = some b_X1_near_96 := id rfl
theorem s_X1_near_119 : s_X1_near 119 = some b_X1_near_119 := id rfl
theorem s_X1_near_125 : s_X1_near 125 = some b_X1_near_125 := id rfl
def u_X1_near : QU := ([37, 74, 97, 29, 117, 120, 12, 77], [], [], [], [123, 126, 130], [109, 114, 56], [])
theorem o_X1_near : q_skok cX1_near 10 u_X1_near L_X1_near = true := by decide +kernel
theorem o_X1_near_72 : q_ok cX1_near 10 u_X1_near 72 b_X1_near_72 = true := by decide +kernel
theorem o_X1_near_89 : q_ok cX1_near 10 u_X1_near 89 b_X1_near_89 = true := by decide +kernel
theorem k_X1_near : q_chk RX1 fl_X1 ld_X1 u_X1_near = true := by decide +kernel
def b_X1_zones_0 : List QE := [(.bipush 15, 2, []), (.istore 5, 4, [])]
def b_X1_zones_4 : List QE := [(.iload 5, 6, []), (.sipush 180, 9, []), (.if_icmp .gt 37, 12, [(0, 46)])]
def b_X1_zones_12 : List QE := [(.aload_n 0, 13, []), (.getfield 25, 16, []), (.iload 5, 18, []), (.aload_n 3, 19, []), (.iload 5, 21, []), (.iaload, 22, []), (.ldc 100, 24, []), (.if_icmp .ne 7, 27, [(0, 31)])]
def b_X1_zones_27 : List QE := [(.iconst 1, 28, []), (.goto 4, 31, [(0, 32)])]
def b_X1_zones_31 : List QE := [(.iconst 0, 32, [])]
def b_X1_zones_32 : List QE := [(.bastore, 33, []), (.aload 4, 35, []), (.iload 5, 37, []), (.ldc 100, 39, []), (.iastore, 40, []), (.iinc 5 1, 43, []), (.goto (-39), 46, [(0, 4)])]
def b_X1_zones_46 : List QE := [(.bipush 15, 48, []), (.istore 5, 50, [])]
def b_X1_zones_50 : List QE := [(.iload 5, 52, []), (.sipush 180, 55, []), (.if_icmp .gt 44, 58, [(0, 99)])]
def b_X1_zones_58 : List QE := [(.aload_n 0, 59, []), (.getfield 25, 62, []), (.iload 5, 64, []), (.baload, 65, []), (.ifCond .ne 28, 68, [(0, 93)])]
def b_X1_zones_68 : List QE := [(.aload_n 0, 69, []), (.aload_n 2, 70, []), (.aload_n 3, 71, []), (.iload 5, 73, []), (.invokevirtual 133, 76, []), (.aload_n 0, 77, []), (.aload_n 0, 78, []), (.getfield 12, 81, []), (.iload_n 1, 82, []), (.invokevirtual 130, 85, []), (.aload_n 3, 86, []), (.iload 5, 88, []), (.aload 4, 90, []), (.invokevirtual 137, 93, [])]
def b_X1_zones_93 : List QE := [(.iinc 5 1, 96, []), (.goto (-46), 99, [(0, 50)])]
def b_X1_zones_99 : List QE := [(.return_, 100, [])]
def L_X1_zones : List (Nat × Option (List QE)) := [(0, some b_X1_zones_0), (4, none), (12, some b_X1_zones_12), (27, some b_X1_zones_27), (31, some b_X1_zones_31), (32, some b_X1_zones_32), (46, some b_X1_zones_46), (50, none), (58, some b_X1_zones_58), (68, some b_X1_zones_68), (93, some b_X1_zones_93), (99, some b_X1_zones_99)]
def s_X1_zones : Nat → Option (List QE) := q_look L_X1_zones
theorem s_X1_zones_0 : s_X1_zones 0 = some b_X1_zones_0 := id rfl
theorem s_X1_zones_4 : s_X1_zones 4 = none := id rfl
theorem s_X1_zones_12 : s_X1_zones 12 = some b_X1_zones_12 := id rfl
theorem s_X1_zones_27 : s_X1_zones 27 = some b_X1_zones_27 := id rfl
theorem s_X1_zones_31 : s_X1_zones 31 = some b_X1_zones_31 := id rfl
theorem s_X1_zones_32 : s_X1_zones 32 = some b_X1_zones_32 := id rfl
theorem s_X1_zones_46 : s_X1_zones 46 = some b_X1_zones_46 := id rfl
theorem s_X1_zones_50 : s_X1_zones 50 = none := id rfl
theorem s_X1_zones_58 : s_X1_zones 58 = some b_X1_zones_58 := id rfl
theorem s_X1_zones_68 : s_X1_zones 68 = some b_X1_zones_68 := id rfl
theorem s_X1_zones_93 : s_X1_zones 93 = some b_X1_zones_93 := id rfl
theorem s_X1_zones_99 : s_X1_zones 99 = some b_X1_zones_99 := id rfl
def u_X1_zones : QU := ([25, 12], [], [100], [], [133, 130, 137], [], [])
theorem o_X1_zones : q_skok cX1_zones 6 u_X1_zones L_X1_zones = true := by decide +kernel
theorem o_X1_zones_50 : q_ok cX1_zones 6 u_X1_zones 50 b_X1_zones_50 = true := by decide +kernel
theorem o_X1_zones_4 : q_ok cX1_zones 6 u_X1_zones 4 b_X1_zones_4 = true := by decide +kernel
theorem k_X1_zones : q_chk RX1 fl_X1 ld_X1 u_X1_zones = true := by decide +kernel
def b_X1_tallyZone_0 : List QE := [(.aload_n 0, 1, []), (.getfield 12, 4, []), (.invokevirtual 123, 7, []), (.iload_n 3, 8, []), (.istore 4, 10, [])]
def b_X1_tallyZone_10 : List QE := [(.iload 4, 12, []), (.sipush 180, 15, []), (.if_icmp .gt 30, 18, [(0, 45)])]
def b_X1_tallyZone_18 : List QE := [(.aload_n 2, 19, []), (.iload 4, 21, []), (.iaload, 22, []), (.aload_n 2, 23, []), (.iload_n 3, 24, []), (.iaload, 25, []), (.if_icmp .ne 14, 28, [(0, 39)])]
def b_X1_tallyZone_28 : List QE := [(.aload_n 0, 29, []), (.getfield 12, 32, []), (.aload_n 1, 33, []), (.iload 4, 35, []), (.iaload, 36, []), (.invokevirtual 126, 39, [])]
def b_X1_tallyZone_39 : List QE := [(.iinc 4 1, 42, []), (.goto (-32), 45, [(0, 10)])]
def b_X1_tallyZone_45 : List QE := [(.return_, 46, [])]
def L_X1_tallyZone : List (Nat × Option (List QE)) := [(0, some b_X1_tallyZone_0), (10, none), (18, some b_X1_tallyZone_18), (28, some b_X1_tallyZone_28), (39, some b_X1_tallyZone_39), (45, some b_X1_tallyZone_45)]
def s_X1_tallyZone : Nat → Option (List QE) := q_look L_X1_tallyZone
theorem s_X1_tallyZone_0 : s_X1_tallyZone 0 = some b_X1_tallyZone_0 := id rfl
theorem s_X1_tallyZone_10 : s_X1_tallyZone 10 = none := id rfl
theorem s_X1_tallyZone_18 : s_X1_tallyZone 18 = some b_X1_tallyZone_18 := id rfl
theorem s_X1_tallyZone_28 : s_X1_tallyZone 28 = some b_X1_tallyZone_28 := id rfl
theorem s_X1_tallyZone_39 : s_X1_tallyZone 39 = some b_X1_tallyZone_39 := id rfl
theorem s_X1_tallyZone_45 : s_X1_tallyZone 45 = some b_X1_tallyZone_45 := id rfl
def u_X1_tallyZone : QU := ([12], [], [], [], [123, 126], [], [])
theorem o_X1_tallyZone : q_skok cX1_tallyZone 5 u_X1_tallyZone L_X1_tallyZone = true := by decide +kernel
theorem o_X1_tallyZone_10 : q_ok cX1_tallyZone 5 u_X1_tallyZone 10 b_X1_tallyZone_10 = true := by decide +kernel
theorem k_X1_tallyZone : q_chk RX1 fl_X1 ld_X1 u_X1_tallyZone = true := by decide +kernel
def b_X1_fillZone_0 : List QE := [(.iload_n 3, 1, []), (.istore 5, 3, [])]
def b_X1_fillZone_3 : List QE := [(.iload 5, 5, []), (.sipush 180, 8, []), (.if_icmp .gt 33, 11, [(0, 41)])]
def b_X1_fillZone_11 : List QE := [(.aload_n 2, 12, []), (.iload 5, 14, []), (.iaload, 15, []), (.aload_n 2, 16, []), (.iload_n 3, 17, []), (.iaload, 18, []), (.if_icmp .ne 17, 21, [(0, 35)])]
def b_X1_fillZone_21 : List QE := [(.aload 4, 23, []), (.iload 5, 25, []), (.iload_n 1, 26, []), (.iastore, 27, []), (.aload_n 0, 28, []), (.getfield 25, 31, []), (.iload 5, 33, []), (.iconst 1, 34, []), (.bastore, 35, [])]
def b_X1_fillZone_35 : List QE := [(.iinc 5 1, 38, []), (.goto (-35), 41, [(0, 3)])]
def b_X1_fillZone_41 : List QE := [(.return_, 42, [])]
def L_X1_fillZone : List (Nat × Option (List QE)) := [(0, some b_X1_fillZone_0), (3, none), (11, some b_X1_fillZone_11), (21, some b_X1_fillZone_21), (35, some b_X1_fillZone_35), (41, some b_X1_fillZone_41)]
def s_X1_fillZone : Nat → Option (List QE) := q_look L_X1_fillZone
theorem s_X1_fillZone_0 : s_X1_fillZone 0 = some b_X1_fillZone_0 := id rfl
theorem s_X1_fillZone_3 : s_X1_fillZone 3 = none := id rfl
theorem s_X1_fillZone_11 : s_X1_fillZone 11 = some b_X1_fillZone_11 := id rfl
theorem s_X1_fillZone_21 : s_X1_fillZone 21 = some b_X1_fillZone_21 := id rfl
theorem s_X1_fillZone_35 : s_X1_fillZone 35 = some b_X1_fillZone_35 := id rfl
theorem s_X1_fillZone_41 : s_X1_fillZone 41 = some b_X1_fillZone_41 := id rfl
def u_X1_fillZone : QU := ([25], [], [], [], [], [], [])
theorem o_X1_fillZone : q_skok cX1_fillZone 6 u_X1_fillZone L_X1_fillZone = true := by decide +kernel
theorem o_X1_fillZone_3 : q_ok cX1_fillZone 6 u_X1_fillZone 3 b_X1_fillZone_3 = true := by decide +kernel
theorem k_X1_fillZone : q_chk RX1 fl_X1 ld_X1 u_X1_fillZone = true := by decide +kernel
def b_X1_ways_0 : List QE := [(.bipush 15, 2, []), (.istore 4, 4, [])]
def b_X1_ways_4 : List QE := [(.iload 4, 6, []), (.sipush 180, 9, []), (.if_icmp .gt 35, 12, [(0, 44)])]
def b_X1_ways_12 : List QE := [(.aload_n 3, 13, []), (.iload 4, 15, []), (.aload_n 2, 16, []), (.iload 4, 18, []), (.iaload, 19, []), (.ldc 100, 21, []), (.if_icmp .eq 14, 24, [(0, 35)])]
def b_X1_ways_24 : List QE := [(.aload_n 1, 25, []), (.iload 4, 27, []), (.iaload, 28, []), (.ifCond .le 7, 31, [(0, 35)])]
def b_X1_ways_31 : List QE := [(.iconst 0, 32, []), (.goto 5, 35, [(0, 37)])]
def b_X1_ways_35 : List QE := [(.ldc 100, 37, [])]
def b_X1_ways_37 : List QE := [(.iastore, 38, []), (.iinc 4 1, 41, []), (.goto (-37), 44, [(0, 4)])]
def b_X1_ways_44 : List QE := [(.iconst 1, 45, []), (.istore 4, 47, []), (.iconst 0, 48, []), (.istore 5, 50, [])]
def b_X1_ways_50 : List QE := [(.iload 4, 52, []), (.ifCond .eq 82, 55, [(0, 134)])]
def b_X1_ways_55 : List QE := [(.iload 5, 57, []), (.sipush 196, 60, []), (.if_icmp .ge 74, 63, [(0, 134)])]
def b_X1_ways_63 : List QE := [(.iconst 0, 64, []), (.istore 4, 66, []), (.bipush 15, 68, []), (.istore 6, 70, [])]
def b_X1_ways_70 : List QE := [(.iload 6, 72, []), (.sipush 180, 75, []), (.if_icmp .gt 22, 78, [(0, 97)])]
def b_X1_ways_78 : List QE := [(.iload 4, 80, []), (.aload_n 0, 81, []), (.aload_n 2, 82, []), (.aload_n 3, 83, []), (.iload 6, 85, []), (.invokevirtual 141, 88, []), (.ior, 89, []), (.istore 4, 91, []), (.iinc 6 1, 94, []), (.goto (-24), 97, [(0, 70)])]
def b_X1_ways_97 : List QE := [(.sipush 180, 100, []), (.istore 6, 102, [])]
def b_X1_ways_102 : List QE := [(.iload 6, 104, []), (.bipush 15, 106, []), (.if_icmp .lt 22, 109, [(0, 128)])]
def b_X1_ways_109 : List QE := [(.iload 4, 111, []), (.aload_n 0, 112, []), (.aload_n 2, 113, []), (.aload_n 3, 114, []), (.iload 6, 116, []), (.invokevirtual 141, 119, []), (.ior, 120, []), (.istore 4, 122, []), (.iinc 6 (-1), 125, []), (.goto (-23), 128, [(0, 102)])]
def b_X1_ways_128 : List QE := [(.iinc 5 1, 131, []), (.goto (-81), 134, [(0, 50)])]
def b_X1_ways_134 : List QE := [(.return_, 135, [])]
def L_X1_ways : List (Nat × Option (List QE)) := [(0, some b_X1_ways_0), (4, none), (12, some b_X1_ways_12), (24, some b_X1_ways_24), (31, some b_X1_ways_31), (35, some b_X1_ways_35), (37, some b_X1_ways_37), (44, some b_X1_ways_44), (50, none), (55, some b_X1_ways_55), (63, some b_X1_ways_63), (70, none), (78, some b_X1_ways_78), (97, some b_X1_ways_97), (102, none), (109, some b_X1_ways_109), (128, some b_X1_ways_128), (134, some b_X1_ways_134)]
def s_X1_ways : Nat → Option (List QE) := q_look L_X1_ways
theorem s_X1_ways_0 : s_X1_ways 0 = some b_X1_ways_0 := id rfl
theorem s_X1_ways_4 : s_X1_ways 4 = none := id rfl
theorem s_X1_ways_12 : s_X1_ways 12 = some b_X1_ways_12 := id rfl
theorem s_X1_ways_24 : s_X1_ways 24 = some b_X1_ways_24 := id rfl
theorem s_X1_ways_31 : s_X1_ways 31 = some b_X1_ways_31 := id rfl
theorem s_X1_ways_35 : s_X1_ways 35 = some b_X1_ways_35 := id rfl
theorem s_X1_ways_37 : s_X1_ways 37 = some b_X1_ways_37 := id rfl
theorem s_X1_ways_44 : s_X1_ways 44 = some b_X1_ways_44 := id rfl
theorem s_X1_ways_50 : s_X1_ways 50 = none := id rfl
theorem s_X1_ways_55 : s_X1_ways 55 = some b_X1_ways_55 := id rfl
theorem s_X1_ways_63 : s_X1_ways 63 = some b_X1_ways_63 := id rfl
theorem s_X1_ways_70 : s_X1_ways 70 = none := id rfl
theorem s_X1_ways_78 : s_X1_ways 78 = some b_X1_ways_78 := id rfl
theorem s_X1_ways_97 : s_X1_ways 97 = some b_X1_ways_97 := id rfl
theorem s_X1_ways_102 : s_X1_ways 102 = none := id rfl
theorem s_X1_ways_109 : s_X1_ways 109 = some b_X1_ways_109 := id rfl
theorem s_X1_ways_128 : s_X1_ways 128 = some b_X1_ways_128 := id rfl
theorem s_X1_ways_134 : s_X1_ways 134 = some b_X1_ways_134 := id rfl
def u_X1_ways : QU := ([], [], [100], [], [141], [], [])
theorem o_X1_ways : q_skok cX1_ways 7 u_X1_ways L_X1_ways = true := by decide +kernel
theorem o_X1_ways_102 : q_ok cX1_ways 7 u_X1_ways 102 b_X1_ways_102 = true := by decide +kernel
theorem o_X1_ways_4 : q_ok cX1_ways 7 u_X1_ways 4 b_X1_ways_4 = true := by decide +kernel
theorem o_X1_ways_50 : q_ok cX1_ways 7 u_X1_ways 50 b_X1_ways_50 = true := by decide +kernel
theorem o_X1_ways_70 : q_ok cX1_ways 7 u_X1_ways 70 b_X1_ways_70 = true := by decide +kernel
theorem k_X1_ways : q_chk RX1 fl_X1 ld_X1 u_X1_ways = true := by decide +kernel
def b_X1_shorten_0 : List QE := [(.aload_n 1, 1, []), (.iload_n 3, 2, []), (.iaload, 3, []), (.ldc 100, 5, []), (.if_icmp .eq 9, 8, [(0, 14)])]
def b_X1_shorten_8 : List QE := [(.aload_n 2, 9, []), (.iload_n 3, 10, []), (.iaload, 11, []), (.ifCond .ne 5, 14, [(0, 16)])]
def b_X1_shorten_14 : List QE := [(.iconst 0, 15, []), (.ireturn, 16, [])]
def b_X1_shorten_16 : List QE := [(.aload_n 2, 17, []), (.iload_n 3, 18, []), (.iaload, 19, []), (.ldc 100, 21, []), (.if_icmp .ne 8, 24, [(0, 29)])]
def b_X1_shorten_24 : List QE := [(.ldc 145, 26, []), (.goto 6, 29, [(0, 32)])]
def b_X1_shorten_29 : List QE := [(.aload_n 2, 30, []), (.iload_n 3, 31, []), (.iaload, 32, [])]
def b_X1_shorten_32 : List QE := [(.istore 4, 34, []), (.iload 4, 36, []), (.istore 5, 38, []), (.iconst 0, 39, []), (.aload_n 1, 40, []), (.iload_n 3, 41, []), (.iaload, 42, []), (.invokestatic 114, 45, []), (.istore 6, 47, []), (.iconst 0, 48, []), (.istore 7, 50, [])]
def b_X1_shorten_50 : List QE := [(.iload 7, 52, []), (.aload_n 0, 53, []), (.getfield 18, 56, []), (.arraylength, 57, []), (.if_icmp .ge 46, 60, [(0, 103)])]
def b_X1_shorten_60 : List QE := [(.aload_n 2, 61, []), (.iload_n 3, 62, []), (.aload_n 0, 63, []), (.getfield 18, 66, []), (.iload 7, 68, []), (.iaload, 69, []), (.iadd, 70, []), (.iaload, 71, []), (.istore 8, 73, []), (.iload 8, 75, []), (.ldc 100, 77, []), (.if_icmp .eq 20, 80, [(0, 97)])]
def b_X1_shorten_80 : List QE := [(.iload 8, 82, []), (.iload 6, 84, []), (.iadd, 85, []), (.iload 5, 87, []), (.if_icmp .ge 10, 90, [(0, 97)])]
def b_X1_shorten_90 : List QE := [(.iload 8, 92, []), (.iload 6, 94, []), (.iadd, 95, []), (.istore 5, 97, [])]
def b_X1_shorten_97 : List QE := [(.iinc 7 1, 100, []), (.goto (-50), 103, [(0, 50)])]
def b_X1_shorten_103 : List QE := [(.iload 5, 105, []), (.iload 4, 107, []), (.if_icmp .ge 8, 110, [(0, 115)])]
def b_X1_shorten_110 : List QE := [(.aload_n 2, 111, []), (.iload_n 3, 112, []), (.iload 5, 114, []), (.iastore, 115, [])]
def b_X1_shorten_115 : List QE := [(.iload 5, 117, []), (.iload 4, 119, []), (.if_icmp .ge 7, 122, [(0, 126)])]
def b_X1_shorten_122 : List QE := [(.iconst 1, 123, []), (.goto 4, 126, [(0, 127)])]
def b_X1_shorten_126 : List QE := [(.iconst 0, 127, [])]
def b_X1_shorten_127 : List QE := [(.ireturn, 128, [])]
def L_X1_shorten : List (Nat × Option (List QE)) := [(0, some b_X1_shorten_0), (8, some b_X1_shorten_8), (14, some b_X1_shorten_14), (16, some b_X1_shorten_16), (24, some b_X1_shorten_24), (29, some b_X1_shorten_29), (32, some b_X1_shorten_32), (50, none), (60, some b_X1_shorten_60), (80, some b_X1_shorten_80), (90, some b_X1_shorten_90), (97, some b_X1_shorten_97), (103, some b_X1_shorten_103), (110, some b_X1_shorten_110), (115, some b_X1_shorten_115), (122, some b_X1_shorten_122), (126, some b_X1_shorten_126), (127, some b_X1_shorten_127)]
def s_X1_shorten : Nat → Option (List QE) := q_look L_X1_shorten
theorem s_X1_shorten_0 : s_X1_shorten 0 = some b_X1_shorten_0 := id rfl
theorem s_X1_shorten_8 : s_X1_shorten 8 = some b_X1_shorten_8 := id rfl
theorem s_X1_shorten_14 : s_X1_shorten 14 = some b_X1_shorten_14 := id rfl
theorem s_X1_shorten_16 : s_X1_shorten 16 = some b_X1_shorten_16 := id rfl
theorem s_X1_shorten_24 : s_X1_shorten 24 = some b_X1_shorten_24 := id rfl
theorem s_X1_shorten_29 : s_X1_shorten 29 = some b_X1_shorten_29 := id rfl
theorem s_X1_shorten_32 : s_X1_shorten 32 = some b_X1_shorten_32 := id rfl
theorem s_X1_shorten_50 : s_X1_shorten 50 = none := id rfl
theorem s_X1_shorten_60 : s_X1_shorten 60 = some b_X1_shorten_60 := id rfl
theorem s_X1_shorten_80 : s_X1_shorten 80 = some b_X1_shorten_80 := id rfl
theorem s_X1_shorten_90 : s_X1_shorten 90 = some b_X1_shorten_90 := id rfl
theorem s_X1_shorten_97 : s_X1_shorten 97 = some b_X1_shorten_97 := id rfl
theorem s_X1_shorten_103 : s_X1_shorten 103 = some b_X1_shorten_103 := id rfl
theorem s_X1_shorten_110 : s_X1_shorten 110 = some b_X1_shorten_110 := id rfl
theorem s_X1_shorten_115 : s_X1_shorten 115 = some b_X1_shorten_115 := id rfl
theorem s_X1_shorten_122 : s_X1_shorten 122 = some b_X1_shorten_122 := id rfl
theorem s_X1_shorten_126 : s_X1_shorten 126 = some b_X1_shorten_126 := id rfl
theorem s_X1_shorten_127 : s_X1_shorten 127 = some b_X1_shorten_127 := id rfl
def u_X1_shorten : QU := ([18], [], [100, 145], [], [], [114], [])
theorem o_X1_shorten : q_skok cX1_shorten 9 u_X1_shorten L_X1_shorten = true := by decide +kernel
theorem o_X1_shorten_50 : q_ok cX1_shorten 9 u_X1_shorten 50 b_X1_shorten_50 = true := by decide +kernel
theorem k_X1_shorten : q_chk RX1 fl_X1 ld_X1 u_X1_shorten = true := by decide +kernel
def b_X1_flows_0 : List QE := [(.bipush 15, 2, []), (.istore_n 3, 3, [])]
def b_X1_flows_3 : List QE := [(.iload_n 3, 4, []), (.sipush 180, 7, []), (.if_icmp .gt 50, 10, [(0, 57)])]
def b_X1_flows_10 : List QE := [(.aload_n 2, 11, []), (.iload_n 3, 12, []), (.aload_n 1, 13, []), (.iload_n 3, 14, []), (.iaload, 15, []), (.ldc 100, 17, []), (.if_icmp .ne 8, 20, [(0, 25)])]
def b_X1_flows_20 : List QE := [(.ldc 100, 22, []), (.goto 4, 25, [(0, 26)])]
def b_X1_flows_25 : List QE := [(.iconst 0, 26, [])]
def b_X1_flows_26 : List QE := [(.iastore, 27, []), (.aload_n 0, 28, []), (.getfield 22, 31, []), (.iload_n 3, 32, []), (.aload_n 1, 33, []), (.iload_n 3, 34, []), (.iaload, 35, []), (.ldc 100, 37, []), (.if_icmp .ne 7, 40, [(0, 44)])]
def b_X1_flows_40 : List QE := [(.iconst (-1), 41, []), (.goto 9, 44, [(0, 50)])]
def b_X1_flows_44 : List QE := [(.aload_n 0, 45, []), (.aload_n 1, 46, []), (.iload_n 3, 47, []), (.invokevirtual 146, 50, [])]
def b_X1_flows_50 : List QE := [(.iastore, 51, []), (.iinc 3 1, 54, []), (.goto (-51), 57, [(0, 3)])]
def b_X1_flows_57 : List QE := [(.bipush 15, 59, []), (.istore_n 3, 60, [])]
def b_X1_flows_60 : List QE := [(.iload_n 3, 61, []), (.sipush 180, 64, []), (.if_icmp .gt 23, 67, [(0, 87)])]
def b_X1_flows_67 : List QE := [(.aload_n 1, 68, []), (.iload_n 3, 69, []), (.iaload, 70, []), (.ldc 100, 72, []), (.if_icmp .eq 9, 75, [(0, 81)])]
def b_X1_flows_75 : List QE := [(.aload_n 0, 76, []), (.aload_n 2, 77, []), (.iload_n 3, 78, []), (.invokevirtual 150, 81, [])]
def b_X1_flows_81 : List QE := [(.iinc 3 1, 84, []), (.goto (-24), 87, [(0, 60)])]
def b_X1_flows_87 : List QE := [(.return_, 88, [])]
def L_X1_flows : List (Nat × Option (List QE)) := [(0, some b_X1_flows_0), (3, none), (10, some b_X1_flows_10), (20, some b_X1_flows_20), (25, some b_X1_flows_25), (26, some b_X1_flows_26), (40, some b_X1_flows_40), (44, some b_X1_flows_44), (50, some b_X1_flows_50), (57, some b_X1_flows_57), (60, none), (67, some b_X1_flows_67), (75, some b_X1_flows_75), (81, some b_X1_flows_81), (87, some b_X1_flows_87)]
def s_X1_flows : Nat → Option (List QE) := q_look L_X1_flows
theorem s_X1_flows_0 : s_X1_flows 0 = some b_X1_flows_0 := id rfl
theorem s_X1_flows_3 : s_X1_flows 3 = none := id rfl
theorem s_X1_flows_10 : s_X1_flows 10 = some b_X1_flows_10 := id rfl
theorem s_X1_flows_20 : s_X1_flows 20 = some b_X1_flows_20 := id rfl
theorem s_X1_flows_25 : s_X1_flows 25 = some b_X1_flows_25 := id rfl
theorem s_X1_flows_26 : s_X1_flows 26 = some b_X1_flows_26 := id rfl
theorem s_X1_flows_40 : s_X1_flows 40 = some b_X1_flows_40 := id rfl
theorem s_X1_flows_44 : s_X1_flows 44 = some b_X1_flows_44 := id rfl
theorem s_X1_flows_50 : s_X1_flows 50 = some b_X1_flows_50 := id rfl
theorem s_X1_flows_57 : s_X1_flows 57 = some b_X1_flows_57 := id rfl
theorem s_X1_flows_60 : s_X1_flows 60 = none := id rfl
theorem s_X1_flows_67 : s_X1_flows 67 = some b_X1_flows_67 := id rfl
theorem s_X1_flows_75 : s_X1_flows 75 = some b_X1_flows_75 := id rfl
theorem s_X1_flows_81 : s_X1_flows 81 = some b_X1_flows_81 := id rfl
theorem s_X1_flows_87 : s_X1_flows 87 = some b_X1_flows_87 := id rfl
def u_X1_flows : QU := ([22], [], [100], [], [146, 150], [], [])
theorem o_X1_flows : q_skok cX1_flows 4 u_X1_flows L_X1_flows = true := by decide +kernel
theorem o_X1_flows_3 : q_ok cX1_flows 4 u_X1_flows 3 b_X1_flows_3 = true := by decide +kernel
theorem o_X1_flows_60 : q_ok cX1_flows 4 u_X1_flows 60 b_X1_flows_60 = true := by decide +kernel
theorem k_X1_flows : q_chk RX1 fl_X1 ld_X1 u_X1_flows = true := by decide +kernel
def b_X1_lowestSide_0 : List QE := [(.aload_n 1, 1, []), (.iload_n 2, 2, []), (.iaload, 3, []), (.istore_n 3, 4, []), (.iconst (-1), 5, []), (.istore 4, 7, []), (.iconst 0, 8, []), (.istore 5, 10, [])]
def b_X1_lowestSide_10 : List QE := [(.iload 5, 12, []), (.aload_n 0, 13, []), (.getfield 18, 16, []), (.arraylength, 17, []), (.if_icmp .ge 46, 20, [(0, 63)])]
def b_X1_lowestSide_20 : List QE := [(.iload_n 2, 21, []), (.aload_n 0, 22, []), (.getfield 18, 25, []), (.iload 5, 27, []), (.iaload, 28, []), (.iadd, 29, []), (.istore 6, 31, []), (.aload_n 1, 32, []), (.iload 6, 34, []), (.iaload, 35, []), (.ldc 100, 37, []), (.if_icmp .eq 20, 40, [(0, 57)])]
def b_X1_lowestSide_40 : List QE := [(.aload_n 1, 41, []), (.iload 6, 43, []), (.iaload, 44, []), (.iload_n 3, 45, []), (.if_icmp .ge 12, 48, [(0, 57)])]
def b_X1_lowestSide_48 : List QE := [(.aload_n 1, 49, []), (.iload 6, 51, []), (.iaload, 52, []), (.istore_n 3, 53, []), (.iload 6, 55, []), (.istore 4, 57, [])]
def b_X1_lowestSide_57 : List QE := [(.iinc 5 1, 60, []), (.goto (-50), 63, [(0, 10)])]
def b_X1_lowestSide_63 : List QE := [(.iload 4, 65, []), (.ireturn, 66, [])]
def L_X1_lowestSide : List (Nat × Option (List QE)) := [(0, some b_X1_lowestSide_0), (10, none), (20, some b_X1_lowestSide_20), (40, some b_X1_lowestSide_40), (48, some b_X1_lowestSide_48), (57, some b_X1_lowestSide_57), (63, some b_X1_lowestSide_63)]
def s_X1_lowestSide : Nat → Option (List QE) := q_look L_X1_lowestSide
theorem s_X1_lowestSide_0 : s_X1_lowestSide 0 = some b_X1_lowestSide_0 := id rfl
theorem s_X1_lowestSide_10 : s_X1_lowestSide 10 = none := id rfl
theorem s_X1_lowestSide_20 : s_X1_lowestSide 20 = some b_X1_lowestSide_20 := id rfl
theorem s_X1_lowestSide_40 : s_X1_lowestSide 40 = some b_X1_lowestSide_40 := id rfl
theorem s_X1_lowestSide_48 : s_X1_lowestSide 48 = some b_X1_lowestSide_48 := id rfl
theorem s_X1_lowestSide_57 : s_X1_lowestSide 57 = some b_X1_lowestSide_57 := id rfl
theorem s_X1_lowestSide_63 : s_X1_lowestSide 63 = some b_X1_lowestSide_63 := id rfl
def u_X1_lowestSide : QU := ([18], [], [100], [], [], [], [])
theorem o_X1_lowestSide : q_skok cX1_lowestSide 7 u_X1_lowestSide L_X1_lowestSide = true := by decide +kernel
theorem o_X1_lowestSide_10 : q_ok cX1_lowestSide 7 u_X1_lowestSide 10 b_X1_lowestSide_10 = true := by decide +kernel
theorem k_X1_lowestSide : q_chk RX1 fl_X1 ld_X1 u_X1_lowestSide = true := by decide +kernel
def b_X1_runDown_0 : List QE := [(.iload_n 2, 1, []), (.istore_n 3, 2, []), (.iconst 0, 3, []), (.istore 4, 5, [])]
def b_X1_runDown_5 : List QE := [(.iload_n 3, 6, []), (.iconst (-1), 7, []), (.if_icmp .eq 31, 10, [(0, 38)])]
def b_X1_runDown_10 : List QE := [(.iload 4, 12, []), (.sipush 196, 15, []), (.if_icmp .ge 23, 18, [(0, 38)])]
def b_X1_runDown_18 : List QE := [(.aload_n 1, 19, []), (.iload_n 3, 20, []), (.dup2, 21, []), (.iaload, 22, []), (.iconst 1, 23, []), (.iadd, 24, []), (.iastore, 25, []), (.aload_n 0, 26, []), (.getfield 22, 29, []), (.iload_n 3, 30, []), (.iaload, 31, []), (.istore_n 3, 32, []), (.iinc 4 1, 35, []), (.goto (-30), 38, [(0, 5)])]
def b_X1_runDown_38 : List QE := [(.return_, 39, [])]
def L_X1_runDown : List (Nat × Option (List QE)) := [(0, some b_X1_runDown_0), (5, none), (10, some b_X1_runDown_10), (18, some b_X1_runDown_18), (38, some b_X1_runDown_38)]
def s_X1_runDown : Nat → Option (List QE) := q_look L_X1_runDown
theorem s_X1_runDown_0 : s_X1_runDown 0 = some b_X1_runDown_0 := id rfl
theorem s_X1_runDown_5 : s_X1_runDown 5 = none := id rfl
theorem s_X1_runDown_10 : s_X1_runDown 10 = some b_X1_runDown_10 := id rfl
theorem s_X1_runDown_18 : s_X1_runDown 18 = some b_X1_runDown_18 := id rfl
theorem s_X1_runDown_38 : s_X1_runDown 38 = some b_X1_runDown_38 := id rfl
def u_X1_runDown : QU := ([22], [], [], [], [], [], [])
theorem o_X1_runDown : q_skok cX1_runDown 5 u_X1_runDown L_X1_runDown = true := by decide +kernel
theorem o_X1_runDown_5 : q_ok cX1_runDown 5 u_X1_runDown 5 b_X1_runDown_5 = true := by decide +kernel
theorem k_X1_runDown : q_chk RX1 fl_X1 ld_X1 u_X1_runDown = true := by decide +kernel
def b_X2_clear_0 : List QE := [(.aload_n 0, 1, []), (.iconst 0, 2, []), (.putfield 25, 5, []), (.aload_n 0, 6, []), (.getfield 17, 9, []), (.iconst (-1), 10, []), (.invokestatic 29, 13, []), (.return_, 14, [])]
def L_X2_clear : List (Nat × Option (List QE)) := [(0, some b_X2_clear_0)]
def s_X2_clear : Nat → Option (List QE) := q_look L_X2_clear
theorem s_X2_clear_0 : s_X2_clear 0 = some b_X2_clear_0 := id rfl
def u_X2_clear : QU := ([25, 17], [25], [], [], [], [29], [])
theorem o_X2_clear : q_skok cX2_clear 1 u_X2_clear L_X2_clear = true := by decide +kernel
theorem k_X2_clear : q_chk RX2 fl_X2 ld_X2 u_X2_clear = true := by decide +kernel
def b_X2_has_0 : List QE := [(.iload_n 1, 1, []), (.ifCond .lt 15, 4, [(0, 16)])]
def b_X2_has_4 : List QE := [(.iload_n 1, 5, []), (.aload_n 0, 6, []), (.getfield 25, 9, []), (.if_icmp .ge 7, 12, [(0, 16)])]
def b_X2_has_12 : List QE := [(.iconst 1, 13, []), (.goto 4, 16, [(0, 17)])]
def b_X2_has_16 : List QE := [(.iconst 0, 17, [])]
def b_X2_has_17 : List QE := [(.ireturn, 18, [])]
def L_X2_has : List (Nat × Option (List QE)) := [(0, some b_X2_has_0), (4, some b_X2_has_4), (12, some b_X2_has_12), (16, some b_X2_has_16), (17, some b_X2_has_17)]
def s_X2_has : Nat → Option (List QE) := q_look L_X2_has
theorem s_X2_has_0 : s_X2_has 0 = some b_X2_has_0 := id rfl
theorem s_X2_has_4 : s_X2_has 4 = some b_X2_has_4 := id rfl
theorem s_X2_has_12 : s_X2_has 12 = some b_X2_has_12 := id rfl
theorem s_X2_has_16 : s_X2_has 16 = some b_X2_has_16 := id rfl
theorem s_X2_has_17 : s_X2_has 17 = some b_X2_has_17 := id rfl
def u_X2_has : QU := ([25], [], [], [], [], [], [])
theorem o_X2_has : q_skok cX2_has 2 u_X2_has L_X2_has = true := by decide +kernel
theorem k_X2_has : q_chk RX2 fl_X2 ld_X2 u_X2_has = true := by decide +kernel
def b_X2_isFull_0 : List QE := [(.aload_n 0, 1, []), (.getfield 25, 4, []), (.bipush 10, 6, []), (.if_icmp .lt 7, 9, [(0, 13)])]
def b_X2_isFull_9 : List QE := [(.iconst 1, 10, []), (.goto 4, 13, [(0, 14)])]
def b_X2_isFull_13 : List QE := [(.iconst 0, 14, [])]
def b_X2_isFull_14 : List QE := [(.ireturn, 15, [])]
def L_X2_isFull : List (Nat × Option (List QE)) := [(0, some b_X2_isFull_0), (9, some b_X2_isFull_9), (13, some b_X2_isFull_13), (14, some b_X2_isFull_14)]
def s_X2_isFull : Nat → Option (List QE) := q_look L_X2_isFull
theorem s_X2_isFull_0 : s_X2_isFull 0 = some b_X2_isFull_0 := id rfl
theorem s_X2_isFull_9 : s_X2_isFull 9 = some b_X2_isFull_9 := id rfl
theorem s_X2_isFull_13 : s_X2_isFull 13 = some b_X2_isFull_13 := id rfl
theorem s_X2_isFull_14 : s_X2_isFull 14 = some b_X2_isFull_14 := id rfl
def u_X2_isFull : QU := ([25], [], [], [], [], [], [])
theorem o_X2_isFull : q_skok cX2_isFull 1 u_X2_isFull L_X2_isFull = true := by decide +kernel
theorem k_X2_isFull : q_chk RX2 fl_X2 ld_X2 u_X2_isFull = true := by decide +kernel
def b_X2_boardNamed_0 : List QE := [(.iload_n 1, 1, []), (.ifCond .lt 18, 4, [(0, 19)])]
def b_X2_boardNamed_4 : List QE := [(.iload_n 1, 5, []), (.bipush 26, 7, []), (.if_icmp .ge 12, 10, [(0, 19)])]
def b_X2_boardNamed_10 : List QE := [(.aload_n 0, 11, []), (.getfield 17, 14, []), (.iload_n 1, 15, []), (.iaload, 16, []), (.goto 4, 19, [(0, 20)])]
def b_X2_boardNamed_19 : List QE := [(.iconst (-1), 20, [])]
def b_X2_boardNamed_20 : List QE := [(.ireturn, 21, [])]
def L_X2_boardNamed : List (Nat × Option (List QE)) := [(0, some b_X2_boardNamed_0), (4, some b_X2_boardNamed_4), (10, some b_X2_boardNamed_10), (19, some b_X2_boardNamed_19), (20, some b_X2_boardNamed_20)]
def s_X2_boardNamed : Nat → Option (List QE) := q_look L_X2_boardNamed
theorem s_X2_boardNamed_0 : s_X2_boardNamed 0 = some b_X2_boardNamed_0 := id rfl
theorem s_X2_boardNamed_4 : s_X2_boardNamed 4 = some b_X2_boardNamed_4 := id rfl
theorem s_X2_boardNamed_10 : s_X2_boardNamed 10 = some b_X2_boardNamed_10 := id rfl
theorem s_X2_boardNamed_19 : s_X2_boardNamed 19 = some b_X2_boardNamed_19 := id rfl
theorem s_X2_boardNamed_20 : s_X2_boardNamed 20 = some b_X2_boardNamed_20 := id rfl
def u_X2_boardNamed : QU := ([17], [], [], [], [], [], [])
theorem o_X2_boardNamed : q_skok cX2_boardNamed 2 u_X2_boardNamed L_X2_boardNamed = true := by decide +kernel
theorem k_X2_boardNamed : q_chk RX2 fl_X2 ld_X2 u_X2_boardNamed = true := by decide +kernel
def b_X2_close_0 : List QE := [(.iload_n 1, 1, []), (.ifCond .lt 36, 4, [(0, 37)])]
def b_X2_close_4 : List QE := [(.iload_n 1, 5, []), (.bipush 26, 7, []), (.if_icmp .ge 30, 10, [(0, 37)])]
def b_X2_close_10 : List QE := [(.aload_n 0, 11, []), (.invokevirtual 35, 14, []), (.ifCond .ne 23, 17, [(0, 37)])]
def b_X2_close_17 : List QE := [(.aload_n 0, 18, []), (.getfield 17, 21, []), (.iload_n 1, 22, []), (.aload_n 0, 23, []), (.getfield 25, 26, []), (.iastore, 27, []), (.aload_n 0, 28, []), (.dup, 29, []), (.getfield 25, 32, []), (.iconst 1, 33, []), (.iadd, 34, []), (.putfield 25, 37, [])]
def b_X2_close_37 : List QE := [(.return_, 38, [])]
def L_X2_close : List (Nat × Option (List QE)) := [(0, some b_X2_close_0), (4, some b_X2_close_4), (10, some b_X2_close_10), (17, some b_X2_close_17), (37, some b_X2_close_37)]
def s_X2_close : Nat → Option (List QE) := q_look L_X2_close
theorem s_X2_close_0 : s_X2_close 0 = some b_X2_close_0 := id rfl
theorem s_X2_close_4 : s_X2_close 4 = some b_X2_close_4 := id rfl
theorem s_X2_close_10 : s_X2_close 10 = some b_X2_close_10 := id rfl
theorem s_X2_close_17 : s_X2_close 17 = some b_X2_close_17 := id rfl
theorem s_X2_close_37 : s_X2_close 37 = some b_X2_close_37 := id rfl
def u_X2_close : QU := ([17, 25], [25], [], [], [35], [], [])
theorem o_X2_close : q_skok cX2_close 2 u_X2_close L_X2_close = true := by decide +kernel
theorem k_X2_close : q_chk RX2 fl_X2 ld_X2 u_X2_close = true := by decide +kernel
def b_X3_read_0 : List QE := [(.aload_n 0, 1, []), (.aload_n 1, 2, []), (.putfield 20, 5, []), (.aload_n 0, 6, []), (.getfield 20, 9, []), (.invokevirtual 24, 12, []), (.aload_n 0, 13, []), (.getfield 14, 16, []), (.invokevirtual 29, 19, []), (.iconst 0, 20, []), (.istore_n 2, 21, [])]
def b_X3_read_21 : List QE := [(.iload_n 2, 22, []), (.bipush 10, 24, []), (.if_icmp .gt 56, 27, [(0, 80)])]
def b_X3_read_27 : List QE := [(.aload_n 0, 28, []), (.invokevirtual 32, 31, []), (.ifCond .ne 11, 34, [(0, 42)])]
def b_X3_read_34 : List QE := [(.aload_n 0, 35, []), (.getfield 14, 38, []), (.invokevirtual 36, 41, []), (.ireturn, 42, [])]
def b_X3_read_42 : List QE := [(.aload_n 0, 43, []), (.getfield 14, 46, []), (.invokevirtual 40, 49, []), (.ifCond .eq 5, 52, [(0, 54)])]
def b_X3_read_52 : List QE := [(.iconst (-1), 53, []), (.ireturn, 54, [])]
def b_X3_read_54 : List QE := [(.aload_n 0, 55, []), (.getfield 14, 58, []), (.bipush 59, 60, []), (.invokevirtual 43, 63, []), (.ifCond .ne 11, 66, [(0, 74)])]
def b_X3_read_66 : List QE := [(.aload_n 0, 67, []), (.getfield 14, 70, []), (.invokevirtual 36, 73, []), (.ireturn, 74, [])]
def b_X3_read_74 : List QE := [(.iinc 2 1, 77, []), (.goto (-56), 80, [(0, 21)])]
def b_X3_read_80 : List QE := [(.aload_n 0, 81, []), (.getfield 14, 84, []), (.invokevirtual 36, 87, []), (.ireturn, 88, [])]
def L_X3_read : List (Nat × Option (List QE)) := [(0, some b_X3_read_0), (21, none), (27, some b_X3_read_27), (34, some b_X3_read_34), (42, some b_X3_read_42), (52, some b_X3_read_52), (54, some b_X3_read_54), (66, some b_X3_read_66), (74, some b_X3_read_74), (80, some b_X3_read_80)]
def s_X3_read : Nat → Option (List QE) := q_look L_X3_read
theorem s_X3_read_0 : s_X3_read 0 = some b_X3_read_0 := id rfl
theorem s_X3_read_21 : s_X3_read 21 = none := id rfl
theorem s_X3_read_27 : s_X3_read 27 = some b_X3_read_27 := id rfl
theorem s_X3_read_34 : s_X3_read 34 = some b_X3_read_34 := id rfl
theorem s_X3_read_42 : s_X3_read 42 = some b_X3_read_42 := id rfl
theorem s_X3_read_52 : s_X3_read 52 = some b_X3_read_52 := id rfl
theorem s_X3_read_54 : s_X3_read 54 = some b_X3_read_54 := id rfl
theorem s_X3_read_66 : s_X3_read 66 = some b_X3_read_66 := id rfl
theorem s_X3_read_74 : s_X3_read 74 = some b_X3_read_74 := id rfl
theorem s_X3_read_80 : s_X3_read 80 = some b_X3_read_80 := id rfl
def u_X3_read : QU := ([20, 14], [20], [], [], [24, 29, 32, 36, 40, 43], [], [])
theorem o_X3_read : q_skok cX3_read 3 u_X3_read L_X3_read = true := by decide +kernel
theorem o_X3_read_21 : q_ok cX3_read 3 u_X3_read 21 b_X3_read_21 = true := by decide +kernel
theorem k_X3_read : q_chk RX3 fl_X3 ld_X3 u_X3_read = true := by decide +kernel
def b_X3_readBoard_0 : List QE := [(.aload_n 0, 1, []), (.getfield 14, 4, []), (.iconst 1, 5, []), (.invokevirtual 47, 8, []), (.istore_n 1, 9, []), (.iload_n 1, 10, []), (.iconst (-1), 11, []), (.if_icmp .eq 25, 14, [(0, 36)])]
def b_X3_readBoard_14 : List QE := [(.aload_n 0, 15, []), (.getfield 20, 18, []), (.iload_n 1, 19, []), (.invokevirtual 51, 22, []), (.iconst (-1), 23, []), (.if_icmp .ne 13, 26, [(0, 36)])]
def b_X3_readBoard_26 : List QE := [(.aload_n 0, 27, []), (.getfield 20, 30, []), (.invokevirtual 54, 33, []), (.ifCond .eq 5, 36, [(0, 38)])]
def b_X3_readBoard_36 : List QE := [(.iconst 0, 37, []), (.ireturn, 38, [])]
def b_X3_readBoard_38 : List QE := [(.aload_n 0, 39, []), (.getfield 14, 42, []), (.invokevirtual 57, 45, []), (.aload_n 0, 46, []), (.getfield 14, 49, []), (.bipush 61, 51, []), (.invokevirtual 43, 54, []), (.ifCond .eq 25, 57, [(0, 79)])]
def b_X3_readBoard_57 : List QE := [(.aload_n 0, 58, []), (.aload_n 0, 59, []), (.getfield 20, 62, []), (.getfield 60, 65, []), (.aload_n 0, 66, []), (.getfield 20, 69, []), (.getfield 64, 72, []), (.aaload, 73, []), (.invokevirtual 68, 76, []), (.ifCond .ne 5, 79, [(0, 81)])]
def b_X3_readBoard_79 : List QE := [(.iconst 0, 80, []), (.ireturn, 81, [])]
def b_X3_readBoard_81 : List QE := [(.aload_n 0, 82, []), (.getfield 20, 85, []), (.iload_n 1, 86, []), (.invokevirtual 72, 89, []), (.iconst 1, 90, []), (.ireturn, 91, [])]
def L_X3_readBoard : List (Nat × Option (List QE)) := [(0, some b_X3_readBoard_0), (14, some b_X3_readBoard_14), (26, some b_X3_readBoard_26), (36, some b_X3_readBoard_36), (38, some b_X3_readBoard_38), (57, some b_X3_readBoard_57), (79, some b_X3_readBoard_79), (81, some b_X3_readBoard_81)]
def s_X3_readBoard : Nat → Option (List QE) := q_look L_X3_readBoard
theorem s_X3_readBoard_0 : s_X3_readBoard 0 = some b_X3_readBoard_0 := id rfl
theorem s_X3_readBoard_14 : s_X3_readBoard 14 = some b_X3_readBoard_14 := id rfl
theorem s_X3_readBoard_26 : s_X3_readBoard 26 = some b_X3_readBoard_26 := id rfl
theorem s_X3_readBoard_36 : s_X3_readBoard 36 = some b_X3_readBoard_36 := id rfl
theorem s_X3_readBoard_38 : s_X3_readBoard 38 = some b_X3_readBoard_38 := id rfl
theorem s_X3_readBoard_57 : s_X3_readBoard 57 = some b_X3_readBoard_57 := id rfl
theorem s_X3_readBoard_79 : s_X3_readBoard 79 = some b_X3_readBoard_79 := id rfl
theorem s_X3_readBoard_81 : s_X3_readBoard 81 = some b_X3_readBoard_81 := id rfl
def u_X3_readBoard : QU := ([14, 20, 60, 64], [], [], [], [47, 51, 54, 57, 43, 68, 72], [], [])
theorem o_X3_readBoard : q_skok cX3_readBoard 2 u_X3_readBoard L_X3_readBoard = true := by decide +kernel
theorem k_X3_readBoard : q_chk RX3 fl_X3 ld_X3 u_X3_readBoard = true := by decide +kernel
def b_X3_readMaking_0 : List QE := [(.aload_n 0, 1, []), (.getfield 14, 4, []), (.iconst 2, 5, []), (.invokevirtual 47, 8, []), (.istore_n 2, 9, []), (.iload_n 2, 10, []), (.ifCond .lt 9, 13, [(0, 19)])]
def b_X3_readMaking_13 : List QE := [(.iload_n 2, 14, []), (.bipush 12, 16, []), (.if_icmp .le 5, 19, [(0, 21)])]
def b_X3_readMaking_19 : List QE := [(.iconst 0, 20, []), (.ireturn, 21, [])]
def b_X3_readMaking_21 : List QE := [(.aload_n 0, 22, []), (.getfield 14, 25, []), (.invokevirtual 57, 28, []), (.aload_n 1, 29, []), (.iload_n 2, 30, []), (.invokevirtual 76, 33, []), (.iload_n 2, 34, []), (.tableswitch 167 0 12 #[66, 167, 167, 167, 167, 167, 167, 167, 74, 81, 104, 137, 160], 100, [(0, 100), (1, 201), (2, 201), (3, 201), (4, 201), (5, 201), (6, 201), (7, 201), (8, 108), (9, 115), (10, 138), (11, 171), (12, 194), (0, 201)])]
def b_X3_readMaking_100 : List QE := [(.aload_n 0, 101, []), (.aload_n 1, 102, []), (.iconst 0, 103, []), (.iconst 3, 104, []), (.invokevirtual 81, 107, []), (.ireturn, 108, [])]
def b_X3_readMaking_108 : List QE := [(.aload_n 0, 109, []), (.aload_n 1, 110, []), (.iconst 3, 111, []), (.invokevirtual 85, 114, []), (.ireturn, 115, [])]
def b_X3_readMaking_115 : List QE := [(.aload_n 0, 116, []), (.aload_n 1, 117, []), (.iconst 1, 118, []), (.invokevirtual 85, 121, []), (.ifCond .eq 15, 124, [(0, 136)])]
def b_X3_readMaking_124 : List QE := [(.aload_n 0, 125, []), (.aload_n 1, 126, []), (.invokevirtual 89, 129, []), (.ifCond .eq 7, 132, [(0, 136)])]
def b_X3_readMaking_132 : List QE := [(.iconst 1, 133, []), (.goto 4, 136, [(0, 137)])]
def b_X3_readMaking_136 : List QE := [(.iconst 0, 137, [])]
def b_X3_readMaking_137 : List QE := [(.ireturn, 138, [])]
def b_X3_readMaking_138 : List QE := [(.aload_n 0, 139, []), (.aload_n 1, 140, []), (.iconst 1, 141, []), (.iconst 3, 142, []), (.invokevirtual 81, 145, []), (.ifCond .eq 24, 148, [(0, 169)])]
def b_X3_readMaking_148 : List QE := [(.aload_n 0, 149, []), (.aload_n 1, 150, []), (.invokevirtual 92, 153, []), (.ifCond .eq 16, 156, [(0, 169)])]
def b_X3_readMaking_156 : List QE := [(.aload_n 0, 157, []), (.aload_n 1, 158, []), (.iconst 1, 159, []), (.invokevirtual 85, 162, []), (.ifCond .eq 7, 165, [(0, 169)])]
def b_X3_readMaking_165 : List QE := [(.iconst 1, 166, []), (.goto 4, 169, [(0, 170)])]
def b_X3_readMaking_169 : List QE := [(.iconst 0, 170, [])]
def b_X3_readMaking_170 : List QE := [(.ireturn, 171, [])]
def b_X3_readMaking_171 : List QE := [(.aload_n 0, 172, []), (.aload_n 1, 173, []), (.invokevirtual 92, 176, []), (.ifCond .eq 16, 179, [(0, 192)])]
def b_X3_readMaking_179 : List QE := [(.aload_n 0, 180, []), (.aload_n 1, 181, []), (.iconst 2, 182, []), (.invokevirtual 85, 185, []), (.ifCond .eq 7, 188, [(0, 192)])]
def b_X3_readMaking_188 : List QE := [(.iconst 1, 189, []), (.goto 4, 192, [(0, 193)])]
def b_X3_readMaking_192 : List QE := [(.iconst 0, 193, [])]
def b_X3_readMaking_193 : List QE := [(.ireturn, 194, [])]
def b_X3_readMaking_194 : List QE := [(.aload_n 0, 195, []), (.aload_n 1, 196, []), (.iconst 1, 197, []), (.invokevirtual 85, 200, []), (.ireturn, 201, [])]
def b_X3_readMaking_201 : List QE := [(.aload_n 0, 202, []), (.aload_n 1, 203, []), (.iconst 2, 204, []), (.invokevirtual 85, 207, []), (.ireturn, 208, [])]
def L_X3_readMaking : List (Nat × Option (List QE)) := [(0, some b_X3_readMaking_0), (13, some b_X3_readMaking_13), (19, some b_X3_readMaking_19), (21, some b_X3_readMaking_21), (100, some b_X3_readMaking_100), (108, some b_X3_readMaking_108), (115, some b_X3_readMaking_115), (124, some b_X3_readMaking_124), (132, some b_X3_readMaking_132), (136, some b_X3_readMaking_136), (137, some b_X3_readMaking_137), (138, some b_X3_readMaking_138), (148, some b_X3_readMaking_148), (156, some b_X3_readMaking_156), (165, some b_X3_readMaking_165), (169, some b_X3_readMaking_169), (170, some b_X3_readMaking_170), (171, some b_X3_readMaking_171), (179, some b_X3_readMaking_179), (188, some b_X3_readMaking_188), (192, some b_X3_readMaking_192), (193, some b_X3_readMaking_193), (194, some b_X3_readMaking_194), (201, some b_X3_readMaking_201)]
def s_X3_readMaking : Nat → Option (List QE) := q_look L_X3_readMaking
theorem s_X3_readMaking_0 : s_X3_readMaking 0 = some b_X3_readMaking_0 := id rfl
theorem s_X3_readMaking_13 : s_X3_readMaking 13 = some b_X3_readMaking_13 := id rfl
theorem s_X3_readMaking_19 : s_X3_readMaking 19 = some b_X3_readMaking_19 := id rfl
theorem s_X3_readMaking_21 : s_X3_readMaking 21 = some b_X3_readMaking_21 := id rfl
theorem s_X3_readMaking_100 : s_X3_readMaking 100 = some b_X3_readMaking_100 := id rfl
theorem s_X3_readMaking_108 : s_X3_readMaking 108 = some b_X3_readMaking_108 := id rfl
theorem s_X3_readMaking_115 : s_X3_readMaking 115 = some b_X3_readMaking_115 := id rfl
theorem s_X3_readMaking_124 : s_X3_readMaking 124 = some b_X3_readMaking_124 := id rfl
theorem s_X3_readMaking_132 : s_X3_readMaking 132 = some b_X3_readMaking_132 := id rfl
theorem s_X3_readMaking_136 : s_X3_readMaking 136 = some b_X3_readMaking_136 := id rfl
theorem s_X3_readMaking_137 : s_X3_readMaking 137 = some b_X3_readMaking_137 := id rfl
theorem s_X3_readMaking_138 : s_X3_readMaking 138 = some b_X3_readMaking_138 := id rfl
theorem s_X3_readMaking_148 : s_X3_readMaking 148 = some b_X3_readMaking_148 := id rfl
theorem s_X3_readMaking_156 : s_X3_readMaking 156 = some b_X3_readMaking_156 := id rfl
theorem s_X3_readMaking_165 : s_X3_readMaking 165 = some b_X3_readMaking_165 := id rfl
theorem s_X3_readMaking_169 : s_X3_readMaking 169 = some b_X3_readMaking_169 := id rfl
theorem s_X3_readMaking_170 : s_X3_readMaking 170 = some b_X3_readMaking_170 := id rfl
theorem s_X3_readMaking_171 : s_X3_readMaking 171 = some b_X3_readMaking_171 := id rfl
theorem s_X3_readMaking_179 : s_X3_readMaking 179 = some b_X3_readMaking_179 := id rfl
theorem s_X3_readMaking_188 : s_X3_readMaking 188 = some b_X3_readMaking_188 := id rfl
theorem s_X3_readMaking_192 : s_X3_readMaking 192 = some b_X3_readMaking_192 := id rfl
theorem s_X3_readMaking_193 : s_X3_readMaking 193 = some b_X3_readMaking_193 := id rfl
theorem s_X3_readMaking_194 : s_X3_readMaking 194 = some b_X3_readMaking_194 := id rfl
theorem s_X3_readMaking_201 : s_X3_readMaking 201 = some b_X3_readMaking_201 := id rfl
def u_X3_readMaking : QU := ([14], [], [], [], [47, 57, 76, 81, 85, 89, 92], [], [])
theorem o_X3_readMaking : q_skok cX3_readMaking 3 u_X3_readMaking L_X3_readMaking = true := by decide +kernel
theorem k_X3_readMaking : q_chk RX3 fl_X3 ld_X3 u_X3_readMaking = true := by decide +kernel
def b_X3_readHow_0 : List QE := [(.aload_n 0, 1, []), (.getfield 14, 4, []), (.iconst 2, 5, []), (.invokevirtual 47, 8, []), (.istore_n 2, 9, []), (.iload_n 2, 10, []), (.bipush 13, 12, []), (.if_icmp .eq 21, 15, [(0, 33)])]
def b_X3_readHow_15 : List QE := [(.iload_n 2, 16, []), (.iconst 5, 17, []), (.if_icmp .eq 16, 20, [(0, 33)])]
def b_X3_readHow_20 : List QE := [(.iload_n 2, 21, []), (.iconst 4, 22, []), (.if_icmp .eq 11, 25, [(0, 33)])]
def b_X3_readHow_25 : List QE := [(.iload_n 2, 26, []), (.bipush 14, 28, []), (.if_icmp .eq 5, 31, [(0, 33)])]
def b_X3_readHow_31 : List QE := [(.iconst 0, 32, []), (.ireturn, 33, [])]
def b_X3_readHow_33 : List QE := [(.aload_n 1, 34, []), (.iload_n 2, 35, []), (.putfield 95, 38, []), (.aload_n 0, 39, []), (.getfield 14, 42, []), (.invokevirtual 57, 45, []), (.iconst 1, 46, []), (.ireturn, 47, [])]
def L_X3_readHow : List (Nat × Option (List QE)) := [(0, some b_X3_readHow_0), (15, some b_X3_readHow_15), (20, some b_X3_readHow_20), (25, some b_X3_readHow_25), (31, some b_X3_readHow_31), (33, some b_X3_readHow_33)]
def s_X3_readHow : Nat → Option (List QE) := q_look L_X3_readHow
theorem s_X3_readHow_0 : s_X3_readHow 0 = some b_X3_readHow_0 := id rfl
theorem s_X3_readHow_15 : s_X3_readHow 15 = some b_X3_readHow_15 := id rfl
theorem s_X3_readHow_20 : s_X3_readHow 20 = some b_X3_readHow_20 := id rfl
theorem s_X3_readHow_25 : s_X3_readHow 25 = some b_X3_readHow_25 := id rfl
theorem s_X3_readHow_31 : s_X3_readHow 31 = some b_X3_readHow_31 := id rfl
theorem s_X3_readHow_33 : s_X3_readHow 33 = some b_X3_readHow_33 := id rfl
def u_X3_readHow : QU := ([14, 95], [95], [], [], [47, 57], [], [])
theorem o_X3_readHow : q_skok cX3_readHow 3 u_X3_readHow L_X3_readHow = true := by decide +kernel
theorem k_X3_readHow : q_chk RX3 fl_X3 ld_X3 u_X3_readHow = true := by decide +kernel
def b_X3_readNames_0 : List QE := [(.iconst 0, 1, []), (.istore_n 3, 2, [])]
def b_X3_readNames_2 : List QE := [(.iload_n 3, 3, []), (.iload_n 2, 4, []), (.if_icmp .ge 47, 7, [(0, 51)])]
def b_X3_readNames_7 : List QE := [(.aload_n 0, 8, []), (.getfield 20, 11, []), (.aload_n 0, 12, []), (.getfield 14, 15, []), (.iconst 1, 16, []), (.invokevirtual 47, 19, []), (.invokevirtual 51, 22, []), (.istore 4, 24, []), (.iload 4, 26, []), (.iconst (-1), 27, []), (.if_icmp .ne 5, 30, [(0, 32)])]
def b_X3_readNames_30 : List QE := [(.iconst 0, 31, []), (.ireturn, 32, [])]
def b_X3_readNames_32 : List QE := [(.aload_n 1, 33, []), (.iload 4, 35, []), (.invokevirtual 98, 38, []), (.aload_n 0, 39, []), (.getfield 14, 42, []), (.invokevirtual 57, 45, []), (.iinc 3 1, 48, []), (.goto (-46), 51, [(0, 2)])]
def b_X3_readNames_51 : List QE := [(.iconst 1, 52, []), (.ireturn, 53, [])]
def L_X3_readNames : List (Nat × Option (List QE)) := [(0, some b_X3_readNames_0), (2, none), (7, some b_X3_readNames_7), (30, some b_X3_readNames_30), (32, some b_X3_readNames_32), (51, some b_X3_readNames_51)]
def s_X3_readNames : Nat → Option (List QE) := q_look L_X3_readNames
theorem s_X3_readNames_0 : s_X3_readNames 0 = some b_X3_readNames_0 := id rfl
theorem s_X3_readNames_2 : s_X3_readNames 2 = none := id rfl
theorem s_X3_readNames_7 : s_X3_readNames 7 = some b_X3_readNames_7 := id rfl
theorem s_X3_readNames_30 : s_X3_readNames 30 = some b_X3_readNames_30 := id rfl
theorem s_X3_readNames_32 : s_X3_readNames 32 = some b_X3_readNames_32 := id rfl
theorem s_X3_readNames_51 : s_X3_readNames 51 = some b_X3_readNames_51 := id rfl
def u_X3_readNames : QU := ([20, 14], [], [], [], [47, 51, 98, 57], [], [])
theorem o_X3_readNames : q_skok cX3_readNames 5 u_X3_readNames L_X3_readNames = true := by decide +kernel
theorem o_X3_readNames_2 : q_ok cX3_readNames 5 u_X3_readNames 2 b_X3_readNames_2 = true := by decide +kernel
theorem k_X3_readNames : q_chk RX3 fl_X3 ld_X3 u_X3_readNames = true := by decide +kernel
def b_X3_readNumber_0 : List QE := [(.aload_n 0, 1, []), (.getfield 14, 4, []), (.iconst 3, 5, []), (.invokevirtual 47, 8, []), (.istore 4, 10, []), (.iload 4, 12, []), (.iload_n 2, 13, []), (.if_icmp .lt 9, 16, [(0, 22)])]
def b_X3_readNumber_16 : List QE := [(.iload 4, 18, []), (.iload_n 3, 19, []), (.if_icmp .le 5, 22, [(0, 24)])]
def b_X3_readNumber_22 : List QE := [(.iconst 0, 23, []), (.ireturn, 24, [])]
def b_X3_readNumber_24 : List QE := [(.aload_n 1, 25, []), (.iload 4, 27, []), (.putfield 101, 30, []), (.aload_n 0, 31, []), (.getfield 14, 34, []), (.invokevirtual 57, 37, []), (.iconst 1, 38, []), (.ireturn, 39, [])]
def L_X3_readNumber : List (Nat × Option (List QE)) := [(0, some b_X3_readNumber_0), (16, some b_X3_readNumber_16), (22, some b_X3_readNumber_22), (24, some b_X3_readNumber_24)]
def s_X3_readNumber : Nat → Option (List QE) := q_look L_X3_readNumber
theorem s_X3_readNumber_0 : s_X3_readNumber 0 = some b_X3_readNumber_0 := id rfl
theorem s_X3_readNumber_16 : s_X3_readNumber 16 = some b_X3_readNumber_16 := id rfl
theorem s_X3_readNumber_22 : s_X3_readNumber 22 = some b_X3_readNumber_22 := id rfl
theorem s_X3_readNumber_24 : s_X3_readNumber 24 = some b_X3_readNumber_24 := id rfl
def u_X3_readNumber : QU := ([14, 101], [101], [], [], [47, 57], [], [])
theorem o_X3_readNumber : q_skok cX3_readNumber 5 u_X3_readNumber L_X3_readNumber = true := by decide +kernel
theorem k_X3_readNumber : q_chk RX3 fl_X3 ld_X3 u_X3_readNumber = true := by decide +kernel
def b_X3_readSigned_0 : List QE := [(.aload_n 0, 1, []), (.getfield 14, 4, []), (.bipush 45, 6, []), (.invokevirtual 43, 9, []), (.istore_n 2, 10, []), (.aload_n 0, 11, []), (.aload_n 1, 12, []), (.iconst 0, 13, []), (.ldc 104, 15, []), (.invokevirtual 81, 18, []), (.ifCond .ne 5, 21, [(0, 23)])]
def b_X3_readSigned_21 : List QE := [(.iconst 0, 22, []), (.ireturn, 23, [])]
def b_X3_readSigned_23 : List QE := [(.iload_n 2, 24, []), (.ifCond .eq 12, 27, [(0, 36)])]
def b_X3_readSigned_27 : List QE := [(.aload_n 1, 28, []), (.aload_n 1, 29, []), (.getfield 101, 32, []), (.ineg, 33, []), (.putfield 101, 36, [])]
def b_X3_readSigned_36 : List QE := [(.iconst 1, 37, []), (.ireturn, 38, [])]
def L_X3_readSigned : List (Nat × Option (List QE)) := [(0, some b_X3_readSigned_0), (21, some b_X3_readSigned_21), (23, some b_X3_readSigned_23), (27, some b_X3_readSigned_27), (36, some b_X3_readSigned_36)]
def s_X3_readSigned : Nat → Option (List QE) := q_look L_X3_readSigned
theorem s_X3_readSigned_0 : s_X3_readSigned 0 = some b_X3_readSigned_0 := id rfl
theorem s_X3_readSigned_21 : s_X3_readSigned 21 = some b_X3_readSigned_21 := id rfl
theorem s_X3_readSigned_23 : s_X3_readSigned 23 = some b_X3_readSigned_23 := id rfl
theorem s_X3_readSigned_27 : s_X3_readSigned 27 = some b_X3_readSigned_27 := id rfl
theorem s_X3_readSigned_36 : s_X3_readSigned 36 = some b_X3_readSigned_36 := id rfl
def u_X3_readSigned : QU := ([14, 101], [101], [104], [], [43, 81], [], [])
theorem o_X3_readSigned : q_skok cX3_readSigned 3 u_X3_readSigned L_X3_readSigned = true := by decide +kernel
theorem k_X3_readSigned : q_chk RX3 fl_X3 ld_X3 u_X3_readSigned = true := by decide +kernel
def b_X4_begin_0 : List QE := [(.aload_n 0, 1, []), (.iload_n 1, 2, []), (.putfield 15, 5, []), (.aload_n 0, 6, []), (.iconst 0, 7, []), (.putfield 19, 10, []), (.aload_n 0, 11, []), (.bipush 13, 13, []), (.putfield 22, 16, []), (.aload_n 0, 17, []), (.iconst 0, 18, []), (.putfield 25, 21, []), (.return_, 22, [])]
def L_X4_begin : List (Nat × Option (List QE)) := [(0, some b_X4_begin_0)]
def s_X4_begin : Nat → Option (List QE) := q_look L_X4_begin
theorem s_X4_begin_0 : s_X4_begin 0 = some b_X4_begin_0 := id rfl
def u_X4_begin : QU := ([15, 19, 22, 25], [15, 19, 22, 25], [], [], [], [], [])
theorem o_X4_begin : q_skok cX4_begin 2 u_X4_begin L_X4_begin = true := by decide +kernel
theorem k_X4_begin : q_chk RX4 fl_X4 ld_X4 u_X4_begin = true := by decide +kernel
def b_X4_name_0 : List QE := [(.aload_n 0, 1, []), (.getfield 19, 4, []), (.iconst 3, 5, []), (.if_icmp .ge 23, 8, [(0, 28)])]
def b_X4_name_8 : List QE := [(.aload_n 0, 9, []), (.getfield 9, 12, []), (.aload_n 0, 13, []), (.getfield 19, 16, []), (.iload_n 1, 17, []), (.iastore, 18, []), (.aload_n 0, 19, []), (.dup, 20, []), (.getfield 19, 23, []), (.iconst 1, 24, []), (.iadd, 25, []), (.putfield 19, 28, [])]
def b_X4_name_28 : List QE := [(.return_, 29, [])]
def L_X4_name : List (Nat × Option (List QE)) := [(0, some b_X4_name_0), (8, some b_X4_name_8), (28, some b_X4_name_28)]
def s_X4_name : Nat → Option (List QE) := q_look L_X4_name
theorem s_X4_name_0 : s_X4_name 0 = some b_X4_name_0 := id rfl
theorem s_X4_name_8 : s_X4_name 8 = some b_X4_name_8 := id rfl
theorem s_X4_name_28 : s_X4_name 28 = some b_X4_name_28 := id rfl
def u_X4_name : QU := ([19, 9], [19], [], [], [], [], [])
theorem o_X4_name : q_skok cX4_name 2 u_X4_name L_X4_name = true := by decide +kernel
theorem k_X4_name : q_chk RX4 fl_X4 ld_X4 u_X4_name = true := by decide +kernel
def b_X4_isWhole_0 : List QE := [(.aload_n 0, 1, []), (.getfield 15, 4, []), (.bipush 11, 6, []), (.if_icmp .eq 21, 9, [(0, 27)])]
def b_X4_isWhole_9 : List QE := [(.aload_n 0, 10, []), (.getfield 15, 13, []), (.bipush 7, 15, []), (.if_icmp .eq 12, 18, [(0, 27)])]
def b_X4_isWhole_18 : List QE := [(.aload_n 0, 19, []), (.getfield 15, 22, []), (.bipush 12, 24, []), (.if_icmp .ne 7, 27, [(0, 31)])]
def b_X4_isWhole_27 : List QE := [(.iconst 1, 28, []), (.goto 4, 31, [(0, 32)])]
def b_X4_isWhole_31 : List QE := [(.iconst 0, 32, [])]
def b_X4_isWhole_32 : List QE := [(.ireturn, 33, [])]
def L_X4_isWhole : List (Nat × Option (List QE)) := [(0, some b_X4_isWhole_0), (9, some b_X4_isWhole_9), (18, some b_X4_isWhole_18), (27, some b_X4_isWhole_27), (31, some b_X4_isWhole_31), (32, some b_X4_isWhole_32)]
def s_X4_isWhole : Nat → Option (List QE) := q_look L_X4_isWhole
theorem s_X4_isWhole_0 : s_X4_isWhole 0 = some b_X4_isWhole_0 := id rfl
theorem s_X4_isWhole_9 : s_X4_isWhole 9 = some b_X4_isWhole_9 := id rfl
theorem s_X4_isWhole_18 : s_X4_isWhole 18 = some b_X4_isWhole_18 := id rfl
theorem s_X4_isWhole_27 : s_X4_isWhole 27 = some b_X4_isWhole_27 := id rfl
theorem s_X4_isWhole_31 : s_X4_isWhole 31 = some b_X4_isWhole_31 := id rfl
theorem s_X4_isWhole_32 : s_X4_isWhole 32 = some b_X4_isWhole_32 := id rfl
def u_X4_isWhole : QU := ([15], [], [], [], [], [], [])
theorem o_X4_isWhole : q_skok cX4_isWhole 1 u_X4_isWhole L_X4_isWhole = true := by decide +kernel
theorem k_X4_isWhole : q_chk RX4 fl_X4 ld_X4 u_X4_isWhole = true := by decide +kernel
def b_X5_empty_0 : List QE := [(.iconst 0, 1, []), (.istore_n 1, 2, [])]
def b_X5_empty_2 : List QE := [(.iload_n 1, 3, []), (.iconst 4, 4, []), (.if_icmp .ge 20, 7, [(0, 24)])]
def b_X5_empty_7 : List QE := [(.aload_n 0, 8, []), (.getfield 11, 11, []), (.iload_n 1, 12, []), (.aaload, 13, []), (.ldc 26, 15, []), (.invokestatic 27, 18, []), (.iinc 1 1, 21, []), (.goto (-19), 24, [(0, 2)])]
def b_X5_empty_24 : List QE := [(.iconst 0, 25, []), (.istore_n 1, 26, [])]
def b_X5_empty_26 : List QE := [(.iload_n 1, 27, []), (.iconst 3, 28, []), (.if_icmp .ge 16, 31, [(0, 44)])]
def b_X5_empty_31 : List QE := [(.aload_n 0, 32, []), (.getfield 19, 35, []), (.iload_n 1, 36, []), (.iconst 0, 37, []), (.bastore, 38, []), (.iinc 1 1, 41, []), (.goto (-15), 44, [(0, 26)])]
def b_X5_empty_44 : List QE := [(.return_, 45, [])]
def L_X5_empty : List (Nat × Option (List QE)) := [(0, some b_X5_empty_0), (2, none), (7, some b_X5_empty_7), (24, some b_X5_empty_24), (26, none), (31, some b_X5_empty_31), (44, some b_X5_empty_44)]
def s_X5_empty : Nat → Option (List QE) := q_look L_X5_empty
theorem s_X5_empty_0 : s_X5_empty 0 = some b_X5_empty_0 := id rfl
theorem s_X5_empty_2 : s_X5_empty 2 = none := id rfl
theorem s_X5_empty_7 : s_X5_empty 7 = some b_X5_empty_7 := id rfl
theorem s_X5_empty_24 : s_X5_empty 24 = some b_X5_empty_24 := id rfl
theorem s_X5_empty_26 : s_X5_empty 26 = none := id rfl
theorem s_X5_empty_31 : s_X5_empty 31 = some b_X5_empty_31 := id rfl
theorem s_X5_empty_44 : s_X5_empty 44 = some b_X5_empty_44 := id rfl
def u_X5_empty : QU := ([11, 19], [], [26], [], [], [27], [])
theorem o_X5_empty : q_skok cX5_empty 2 u_X5_empty L_X5_empty = true := by decide +kernel
theorem o_X5_empty_2 : q_ok cX5_empty 2 u_X5_empty 2 b_X5_empty_2 = true := by decide +kernel
theorem o_X5_empty_26 : q_ok cX5_empty 2 u_X5_empty 26 b_X5_empty_26 = true := by decide +kernel
theorem k_X5_empty : q_chk RX5 fl_X5 ld_X5 u_X5_empty = true := by decide +kernel
def b_X5_keep_0 : List QE := [(.iconst 0, 1, []), (.istore_n 2, 2, [])]
def b_X5_keep_2 : List QE := [(.iload_n 2, 3, []), (.iconst 4, 4, []), (.if_icmp .ge 33, 7, [(0, 37)])]
def b_X5_keep_7 : List QE := [(.aload_n 0, 8, []), (.getfield 11, 11, []), (.iload_n 2, 12, []), (.aaload, 13, []), (.iconst 0, 14, []), (.aload_n 0, 15, []), (.getfield 16, 18, []), (.iload_n 1, 19, []), (.aaload, 20, []), (.iload_n 2, 21, []), (.sipush 196, 24, []), (.imul, 25, []), (.sipush 196, 28, []), (.invokestatic 33, 31, []), (.iinc 2 1, 34, []), (.goto (-32), 37, [(0, 2)])]
def b_X5_keep_37 : List QE := [(.aload_n 0, 38, []), (.getfield 19, 41, []), (.iload_n 1, 42, []), (.iconst 1, 43, []), (.bastore, 44, []), (.return_, 45, [])]
def L_X5_keep : List (Nat × Option (List QE)) := [(0, some b_X5_keep_0), (2, none), (7, some b_X5_keep_7), (37, some b_X5_keep_37)]
def s_X5_keep : Nat → Option (List QE) := q_look L_X5_keep
theorem s_X5_keep_0 : s_X5_keep 0 = some b_X5_keep_0 := id rfl
theorem s_X5_keep_2 : s_X5_keep 2 = none := id rfl
theorem s_X5_keep_7 : s_X5_keep 7 = some b_X5_keep_7 := id rfl
theorem s_X5_keep_37 : s_X5_keep 37 = some b_X5_keep_37 := id rfl
def u_X5_keep : QU := ([11, 16, 19], [], [], [], [], [33], [])
theorem o_X5_keep : q_skok cX5_keep 3 u_X5_keep L_X5_keep = true := by decide +kernel
theorem o_X5_keep_2 : q_ok cX5_keep 3 u_X5_keep 2 b_X5_keep_2 = true := by decide +kernel
theorem k_X5_keep : q_chk RX5 fl_X5 ld_X5 u_X5_keep = true := by decide +kernel
def b_X6_clear_0 : List QE := [(.aload_n 0, 1, []), (.lconst 0, 2, []), (.putfield 9, 5, []), (.aload_n 0, 6, []), (.ldc 15, 8, []), (.putfield 16, 11, []), (.aload_n 0, 12, []), (.ldc 20, 14, []), (.putfield 21, 17, []), (.aload_n 0, 18, []), (.iconst 0, 19, []), (.putfield 24, 22, []), (.return_, 23, [])]
def L_X6_clear : List (Nat × Option (List QE)) := [(0, some b_X6_clear_0)]
def s_X6_clear : Nat → Option (List QE) := q_look L_X6_clear
theorem s_X6_clear_0 : s_X6_clear 0 = some b_X6_clear_0 := id rfl
def u_X6_clear : QU := ([9, 16, 21, 24], [9, 16, 21, 24], [15, 20], [], [], [], [])
theorem o_X6_clear : q_skok cX6_clear 1 u_X6_clear L_X6_clear = true := by decide +kernel
theorem k_X6_clear : q_chk RX6 fl_X6 ld_X6 u_X6_clear = true := by decide +kernel
def b_X6_take_0 : List QE := [(.iload_n 1, 1, []), (.ldc 27, 3, []), (.if_icmp .ne 4, 6, [(0, 7)])]
def b_X6_take_6 : List QE := [(.return_, 7, [])]
def b_X6_take_7 : List QE := [(.aload_n 0, 8, []), (.dup, 9, []), (.getfield 9, 12, []), (.iload_n 1, 13, []), (.i2l, 14, []), (.ladd, 15, []), (.putfield 9, 18, []), (.iload_n 1, 19, []), (.aload_n 0, 20, []), (.getfield 16, 23, []), (.if_icmp .le 8, 26, [(0, 31)])]
def b_X6_take_26 : List QE := [(.aload_n 0, 27, []), (.iload_n 1, 28, []), (.putfield 16, 31, [])]
def b_X6_take_31 : List QE := [(.iload_n 1, 32, []), (.aload_n 0, 33, []), (.getfield 21, 36, []), (.if_icmp .ge 8, 39, [(0, 44)])]
def b_X6_take_39 : List QE := [(.aload_n 0, 40, []), (.iload_n 1, 41, []), (.putfield 21, 44, [])]
def b_X6_take_44 : List QE := [(.aload_n 0, 45, []), (.dup, 46, []), (.getfield 24, 49, []), (.iconst 1, 50, []), (.iadd, 51, []), (.putfield 24, 54, []), (.return_, 55, [])]
def L_X6_take : List (Nat × Option (List QE)) := [(0, some b_X6_take_0), (6, some b_X6_take_6), (7, some b_X6_take_7), (26, some b_X6_take_26), (31, some b_X6_take_31), (39, some b_X6_take_39), (44, some b_X6_take_44)]
def s_X6_take : Nat → Option (List QE) := q_look L_X6_take
theorem s_X6_take_0 : s_X6_take 0 = some b_X6_take_0 := id rfl
theorem s_X6_take_6 : s_X6_take 6 = some b_X6_take_6 := id rfl
theorem s_X6_take_7 : s_X6_take 7 = some b_X6_take_7 := id rfl
theorem s_X6_take_26 : s_X6_take 26 = some b_X6_take_26 := id rfl
theorem s_X6_take_31 : s_X6_take 31 = some b_X6_take_31 := id rfl
theorem s_X6_take_39 : s_X6_take 39 = some b_X6_take_39 := id rfl
theorem s_X6_take_44 : s_X6_take 44 = some b_X6_take_44 := id rfl
def u_X6_take : QU := ([9, 16, 21, 24], [9, 16, 21, 24], [27], [], [], [], [])
theorem o_X6_take : q_skok cX6_take 2 u_X6_take L_X6_take = true := by decide +kernel
theorem k_X6_take : q_chk RX6 fl_X6 ld_X6 u_X6_take = true := by decide +kernel
def b_X6_answer_0 : List QE := [(.iload_n 1, 1, []), (.bipush 14, 3, []), (.if_icmp .ne 8, 6, [(0, 11)])]
def b_X6_answer_6 : List QE := [(.aload_n 0, 7, []), (.getfield 24, 10, []), (.ireturn, 11, [])]
def b_X6_answer_11 : List QE := [(.aload_n 0, 12, []), (.getfield 24, 15, []), (.ifCond .ne 6, 18, [(0, 21)])]
def b_X6_answer_18 : List QE := [(.ldc 27, 20, []), (.ireturn, 21, [])]
def b_X6_answer_21 : List QE := [(.iload_n 1, 22, []), (.lookupswitch 36 #[(4, 31), (5, 26)], 48, [(4, 53), (5, 48), (0, 58)])]
def b_X6_answer_48 : List QE := [(.aload_n 0, 49, []), (.getfield 16, 52, []), (.ireturn, 53, [])]
def b_X6_answer_53 : List QE := [(.aload_n 0, 54, []), (.getfield 21, 57, []), (.ireturn, 58, [])]
def b_X6_answer_58 : List QE := [(.aload_n 0, 59, []), (.getfield 9, 62, []), (.invokestatic 28, 65, []), (.ireturn, 66, [])]
def L_X6_answer : List (Nat × Option (List QE)) := [(0, some b_X6_answer_0), (6, some b_X6_answer_6), (11, some b_X6_answer_11), (18, some b_X6_answer_18), (21, some b_X6_answer_21), (48, some b_X6_answer_48), (53, some b_X6_answer_53), (58, some b_X6_answer_58)]
def s_X6_answer : Nat → Option (List QE) := q_look L_X6_answer
theorem s_X6_answer_0 : s_X6_answer 0 = some b_X6_answer_0 := id rfl
theorem s_X6_answer_6 : s_X6_answer 6 = some b_X6_answer_6 := id rfl
theorem s_X6_answer_11 : s_X6_answer 11 = some b_X6_answer_11 := id rfl
theorem s_X6_answer_18 : s_X6_answer 18 = some b_X6_answer_18 := id rfl
theorem s_X6_answer_21 : s_X6_answer 21 = some b_X6_answer_21 := id rfl
theorem s_X6_answer_48 : s_X6_answer 48 = some b_X6_answer_48 := id rfl
theorem s_X6_answer_53 : s_X6_answer 53 = some b_X6_answer_53 := id rfl
theorem s_X6_answer_58 : s_X6_answer 58 = some b_X6_answer_58 := id rfl
def u_X6_answer : QU := ([24, 16, 21, 9], [], [27], [], [], [28], [])
theorem o_X6_answer : q_skok cX6_answer 2 u_X6_answer L_X6_answer = true := by decide +kernel
theorem k_X6_answer : q_chk RX6 fl_X6 ld_X6 u_X6_answer = true := by decide +kernel
def b_X7_hasRoom_0 : List QE := [(.aload_n 0, 1, []), (.getfield 15, 4, []), (.iload_n 1, 5, []), (.iadd, 6, []), (.sipush 300, 9, []), (.if_icmp .gt 7, 12, [(0, 16)])]
def b_X7_hasRoom_12 : List QE := [(.iconst 1, 13, []), (.goto 4, 16, [(0, 17)])]
def b_X7_hasRoom_16 : List QE := [(.iconst 0, 17, [])]
def b_X7_hasRoom_17 : List QE := [(.ireturn, 18, [])]
def L_X7_hasRoom : List (Nat × Option (List QE)) := [(0, some b_X7_hasRoom_0), (12, some b_X7_hasRoom_12), (16, some b_X7_hasRoom_16), (17, some b_X7_hasRoom_17)]
def s_X7_hasRoom : Nat → Option (List QE) := q_look L_X7_hasRoom
theorem s_X7_hasRoom_0 : s_X7_hasRoom 0 = some b_X7_hasRoom_0 := id rfl
theorem s_X7_hasRoom_12 : s_X7_hasRoom 12 = some b_X7_hasRoom_12 := id rfl
theorem s_X7_hasRoom_16 : s_X7_hasRoom 16 = some b_X7_hasRoom_16 := id rfl
theorem s_X7_hasRoom_17 : s_X7_hasRoom 17 = some b_X7_hasRoom_17 := id rfl
def u_X7_hasRoom : QU := ([15], [], [], [], [], [], [])
theorem o_X7_hasRoom : q_skok cX7_hasRoom 2 u_X7_hasRoom L_X7_hasRoom = true := by decide +kernel
theorem k_X7_hasRoom : q_chk RX7 fl_X7 ld_X7 u_X7_hasRoom = true := by decide +kernel
def b_X7_append_0 : List QE := [(.bipush 24, 2, []), (.istore_n 2, 3, [])]
def b_X7_append_3 : List QE := [(.iload_n 2, 4, []), (.ifCond .lt 46, 7, [(0, 50)])]
def b_X7_append_7 : List QE := [(.aload_n 0, 8, []), (.getfield 15, 11, []), (.sipush 300, 14, []), (.if_icmp .ge 30, 17, [(0, 44)])]
def b_X7_append_17 : List QE := [(.aload_n 0, 18, []), (.getfield 9, 21, []), (.aload_n 0, 22, []), (.getfield 15, 25, []), (.iload_n 1, 26, []), (.iload_n 2, 27, []), (.iushr, 28, []), (.sipush 255, 31, []), (.iand, 32, []), (.i2c, 33, []), (.castore, 34, []), (.aload_n 0, 35, []), (.dup, 36, []), (.getfield 15, 39, []), (.iconst 1, 40, []), (.iadd, 41, []), (.putfield 15, 44, [])]
def b_X7_append_44 : List QE := [(.iinc 2 (-8), 47, []), (.goto (-44), 50, [(0, 3)])]
def b_X7_append_50 : List QE := [(.return_, 51, [])]
def L_X7_append : List (Nat × Option (List QE)) := [(0, some b_X7_append_0), (3, none), (7, some b_X7_append_7), (17, some b_X7_append_17), (44, some b_X7_append_44), (50, some b_X7_append_50)]
def s_X7_append : Nat → Option (List QE) := q_look L_X7_append
theorem s_X7_append_0 : s_X7_append 0 = some b_X7_append_0 := id rfl
theorem s_X7_append_3 : s_X7_append 3 = none := id rfl
theorem s_X7_append_7 : s_X7_append 7 = some b_X7_append_7 := id rfl
theorem s_X7_append_17 : s_X7_append 17 = some b_X7_append_17 := id rfl
theorem s_X7_append_44 : s_X7_append 44 = some b_X7_append_44 := id rfl
theorem s_X7_append_50 : s_X7_append 50 = some b_X7_append_50 := id rfl
def u_X7_append : QU := ([15, 9], [15], [], [], [], [], [])
theorem o_X7_append : q_skok cX7_append 3 u_X7_append L_X7_append = true := by decide +kernel
theorem o_X7_append_3 : q_ok cX7_append 3 u_X7_append 3 b_X7_append_3 = true := by decide +kernel
theorem k_X7_append : q_chk RX7 fl_X7 ld_X7 u_X7_append = true := by decide +kernel
def b_X7_byteAt_0 : List QE := [(.iload_n 1, 1, []), (.ifCond .lt 20, 4, [(0, 21)])]
def b_X7_byteAt_4 : List QE := [(.iload_n 1, 5, []), (.aload_n 0, 6, []), (.getfield 15, 9, []), (.if_icmp .ge 12, 12, [(0, 21)])]
def b_X7_byteAt_12 : List QE := [(.aload_n 0, 13, []), (.getfield 9, 16, []), (.iload_n 1, 17, []), (.caload, 18, []), (.goto 4, 21, [(0, 22)])]
def b_X7_byteAt_21 : List QE := [(.iconst 0, 22, [])]
def b_X7_byteAt_22 : List QE := [(.ireturn, 23, [])]
def L_X7_byteAt : List (Nat × Option (List QE)) := [(0, some b_X7_byteAt_0), (4, some b_X7_byteAt_4), (12, some b_X7_byteAt_12), (21, some b_X7_byteAt_21), (22, some b_X7_byteAt_22)]
def s_X7_byteAt : Nat → Option (List QE) := q_look L_X7_byteAt
theorem s_X7_byteAt_0 : s_X7_byteAt 0 = some b_X7_byteAt_0 := id rfl
theorem s_X7_byteAt_4 : s_X7_byteAt 4 = some b_X7_byteAt_4 := id rfl
theorem s_X7_byteAt_12 : s_X7_byteAt 12 = some b_X7_byteAt_12 := id rfl
theorem s_X7_byteAt_21 : s_X7_byteAt 21 = some b_X7_byteAt_21 := id rfl
theorem s_X7_byteAt_22 : s_X7_byteAt 22 = some b_X7_byteAt_22 := id rfl
def u_X7_byteAt : QU := ([15, 9], [], [], [], [], [], [])
theorem o_X7_byteAt : q_skok cX7_byteAt 2 u_X7_byteAt L_X7_byteAt = true := by decide +kernel
theorem k_X7_byteAt : q_chk RX7 fl_X7 ld_X7 u_X7_byteAt = true := by decide +kernel
def b_X7_isLetter_0 : List QE := [(.aload_n 0, 1, []), (.iload_n 1, 2, []), (.invokevirtual 19, 5, []), (.bipush 97, 7, []), (.if_icmp .lt 17, 10, [(0, 24)])]
def b_X7_isLetter_10 : List QE := [(.aload_n 0, 11, []), (.iload_n 1, 12, []), (.invokevirtual 19, 15, []), (.bipush 122, 17, []), (.if_icmp .gt 7, 20, [(0, 24)])]
def b_X7_isLetter_20 : List QE := [(.iconst 1, 21, []), (.goto 4, 24, [(0, 25)])]
def b_X7_isLetter_24 : List QE := [(.iconst 0, 25, [])]
def b_X7_isLetter_25 : List QE := [(.ireturn, 26, [])]
def L_X7_isLetter : List (Nat × Option (List QE)) := [(0, some b_X7_isLetter_0), (10, some b_X7_isLetter_10), (20, some b_X7_isLetter_20), (24, some b_X7_isLetter_24), (25, some b_X7_isLetter_25)]
def s_X7_isLetter : Nat → Option (List QE) := q_look L_X7_isLetter
theorem s_X7_isLetter_0 : s_X7_isLetter 0 = some b_X7_isLetter_0 := id rfl
theorem s_X7_isLetter_10 : s_X7_isLetter 10 = some b_X7_isLetter_10 := id rfl
theorem s_X7_isLetter_20 : s_X7_isLetter 20 = some b_X7_isLetter_20 := id rfl
theorem s_X7_isLetter_24 : s_X7_isLetter 24 = some b_X7_isLetter_24 := id rfl
theorem s_X7_isLetter_25 : s_X7_isLetter 25 = some b_X7_isLetter_25 := id rfl
def u_X7_isLetter : QU := ([], [], [], [], [19], [], [])
theorem o_X7_isLetter : q_skok cX7_isLetter 2 u_X7_isLetter L_X7_isLetter = true := by decide +kernel
theorem k_X7_isLetter : q_chk RX7 fl_X7 ld_X7 u_X7_isLetter = true := by decide +kernel
def b_X7_isDigit_0 : List QE := [(.aload_n 0, 1, []), (.iload_n 1, 2, []), (.invokevirtual 19, 5, []), (.bipush 48, 7, []), (.if_icmp .lt 17, 10, [(0, 24)])]
def b_X7_isDigit_10 : List QE := [(.aload_n 0, 11, []), (.iload_n 1, 12, []), (.invokevirtual 19, 15, []), (.bipush 57, 17, []), (.if_icmp .gt 7, 20, [(0, 24)])]
def b_X7_isDigit_20 : List QE := [(.iconst 1, 21, []), (.goto 4, 24, [(0, 25)])]
def b_X7_isDigit_24 : List QE := [(.iconst 0, 25, [])]
def b_X7_isDigit_25 : List QE := [(.ireturn, 26, [])]
def L_X7_isDigit : List (Nat × Option (List QE)) := [(0, some b_X7_isDigit_0), (10, some b_X7_isDigit_10), (20, some b_X7_isDigit_20), (24, some b_X7_isDigit_24), (25, some b_X7_isDigit_25)]
def s_X7_isDigit : Nat → Option (List QE) := q_look L_X7_isDigit
theorem s_X7_isDigit_0 : s_X7_isDigit 0 = some b_X7_isDigit_0 := id rfl
theorem s_X7_isDigit_10 : s_X7_isDigit 10 = some b_X7_isDigit_10 := id rfl
theorem s_X7_isDigit_20 : s_X7_isDigit 20 = some b_X7_isDigit_20 := id rfl
theorem s_X7_isDigit_24 : s_X7_isDigit 24 = some b_X7_isDigit_24 := id rfl
theorem s_X7_isDigit_25 : s_X7_isDigit 25 = some b_X7_isDigit_25 := id rfl
def u_X7_isDigit : QU := ([], [], [], [], [19], [], [])
theorem o_X7_isDigit : q_skok cX7_isDigit 2 u_X7_isDigit L_X7_isDigit = true := by decide +kernel
theorem k_X7_isDigit : q_chk RX7 fl_X7 ld_X7 u_X7_isDigit = true := by decide +kernel
def b_X8_cut_0 : List QE := [(.aload_n 0, 1, []), (.iconst 0, 2, []), (.putfield 25, 5, []), (.aload_n 0, 6, []), (.iconst 0, 7, []), (.putfield 29, 10, []), (.iconst 0, 11, []), (.istore_n 1, 12, [])]
def b_X8_cut_12 : List QE := [(.iload_n 1, 13, []), (.aload_n 0, 14, []), (.getfield 21, 17, []), (.getfield 32, 20, []), (.if_icmp .ge 22, 23, [(0, 42)])]
def b_X8_cut_23 : List QE := [(.aload_n 0, 24, []), (.iload_n 1, 25, []), (.invokevirtual 35, 28, []), (.ifCond .eq 8, 31, [(0, 36)])]
def b_X8_cut_31 : List QE := [(.aload_n 0, 32, []), (.iload_n 1, 33, []), (.invokevirtual 39, 36, [])]
def b_X8_cut_36 : List QE := [(.iinc 1 1, 39, []), (.goto (-27), 42, [(0, 12)])]
def b_X8_cut_42 : List QE := [(.aload_n 0, 43, []), (.iconst 0, 44, []), (.iconst 0, 45, []), (.aload_n 0, 46, []), (.getfield 21, 49, []), (.getfield 32, 52, []), (.invokevirtual 43, 55, []), (.return_, 56, [])]
def L_X8_cut : List (Nat × Option (List QE)) := [(0, some b_X8_cut_0), (12, none), (23, some b_X8_cut_23), (31, some b_X8_cut_31), (36, some b_X8_cut_36), (42, some b_X8_cut_42)]
def s_X8_cut : Nat → Option (List QE) := q_look L_X8_cut
theorem s_X8_cut_0 : s_X8_cut 0 = some b_X8_cut_0 := id rfl
theorem s_X8_cut_12 : s_X8_cut 12 = none := id rfl
theorem s_X8_cut_23 : s_X8_cut 23 = some b_X8_cut_23 := id rfl
theorem s_X8_cut_31 : s_X8_cut 31 = some b_X8_cut_31 := id rfl
theorem s_X8_cut_36 : s_X8_cut 36 = some b_X8_cut_36 := id rfl
theorem s_X8_cut_42 : s_X8_cut 42 = some b_X8_cut_42 := id rfl
def u_X8_cut : QU := ([25, 29, 21, 32], [25, 29], [], [], [35, 39, 43], [], [])
theorem o_X8_cut : q_skok cX8_cut 2 u_X8_cut L_X8_cut = true := by decide +kernel
theorem o_X8_cut_12 : q_ok cX8_cut 2 u_X8_cut 12 b_X8_cut_12 = true := by decide +kernel
theorem k_X8_cut : q_chk RX8 fl_X8 ld_X8 u_X8_cut = true := by decide +kernel
def b_X8_isStart_0 : List QE := [(.aload_n 0, 1, []), (.getfield 21, 4, []), (.iload_n 1, 5, []), (.invokevirtual 47, 8, []), (.ifCond .eq 22, 11, [(0, 30)])]
def b_X8_isStart_11 : List QE := [(.aload_n 0, 12, []), (.getfield 21, 15, []), (.iload_n 1, 16, []), (.iconst 1, 17, []), (.isub, 18, []), (.invokevirtual 47, 21, []), (.ifCond .ne 7, 24, [(0, 28)])]
def b_X8_isStart_24 : List QE := [(.iconst 1, 25, []), (.goto 4, 28, [(0, 29)])]
def b_X8_isStart_28 : List QE := [(.iconst 0, 29, [])]
def b_X8_isStart_29 : List QE := [(.ireturn, 30, [])]
def b_X8_isStart_30 : List QE := [(.aload_n 0, 31, []), (.getfield 21, 34, []), (.iload_n 1, 35, []), (.invokevirtual 50, 38, []), (.ifCond .eq 22, 41, [(0, 60)])]
def b_X8_isStart_41 : List QE := [(.aload_n 0, 42, []), (.getfield 21, 45, []), (.iload_n 1, 46, []), (.iconst 1, 47, []), (.isub, 48, []), (.invokevirtual 50, 51, []), (.ifCond .ne 7, 54, [(0, 58)])]
def b_X8_isStart_54 : List QE := [(.iconst 1, 55, []), (.goto 4, 58, [(0, 59)])]
def b_X8_isStart_58 : List QE := [(.iconst 0, 59, [])]
def b_X8_isStart_59 : List QE := [(.ireturn, 60, [])]
def b_X8_isStart_60 : List QE := [(.aload_n 0, 61, []), (.getfield 21, 64, []), (.iload_n 1, 65, []), (.invokevirtual 53, 68, []), (.bipush 32, 70, []), (.if_icmp .eq 7, 73, [(0, 77)])]
def b_X8_isStart_73 : List QE := [(.iconst 1, 74, []), (.goto 4, 77, [(0, 78)])]
def b_X8_isStart_77 : List QE := [(.iconst 0, 78, [])]
def b_X8_isStart_78 : List QE := [(.ireturn, 79, [])]
def L_X8_isStart : List (Nat × Option (List QE)) := [(0, some b_X8_isStart_0), (11, some b_X8_isStart_11), (24, some b_X8_isStart_24), (28, some b_X8_isStart_28), (29, some b_X8_isStart_29), (30, some b_X8_isStart_30), (41, some b_X8_isStart_41), (54, some b_X8_isStart_54), (58, some b_X8_isStart_58), (59, some b_X8_isStart_59), (60, some b_X8_isStart_60), (73, some b_X8_isStart_73), (77, some b_X8_isStart_77), (78, some b_X8_isStart_78)]
def s_X8_isStart : Nat → Option (List QE) := q_look L_X8_isStart
theorem s_X8_isStart_0 : s_X8_isStart 0 = some b_X8_isStart_0 := id rfl
theorem s_X8_isStart_11 : s_X8_isStart 11 = some b_X8_isStart_11 := id rfl
theorem s_X8_isStart_24 : s_X8_isStart 24 = some b_X8_isStart_24 := id rfl
theorem s_X8_isStart_28 : s_X8_isStart 28 = some b_X8_isStart_28 := id rfl
theorem s_X8_isStart_29 : s_X8_isStart 29 = some b_X8_isStart_29 := id rfl
theorem s_X8_isStart_30 : s_X8_isStart 30 = some b_X8_isStart_30 := id rfl
theorem s_X8_isStart_41 : s_X8_isStart 41 = some b_X8_isStart_41 := id rfl
theorem s_X8_isStart_54 : s_X8_isStart 54 = some b_X8_isStart_54 := id rfl
theorem s_X8_isStart_58 : s_X8_isStart 58 = some b_X8_isStart_58 := id rfl
theorem s_X8_isStart_59 : s_X8_isStart 59 = some b_X8_isStart_59 := id rfl
theorem s_X8_isStart_60 : s_X8_isStart 60 = some b_X8_isStart_60 := id rfl
theorem s_X8_isStart_73 : s_X8_isStart 73 = some b_X8_isStart_73 := id rfl
theorem s_X8_isStart_77 : s_X8_isStart 77 = some b_X8_isStart_77 := id rfl
theorem s_X8_isStart_78 : s_X8_isStart 78 = some b_X8_isStart_78 := id rfl
def u_X8_isStart : QU := ([21], [], [], [], [47, 50, 53], [], [])
theorem o_X8_isStart : q_skok cX8_isStart 2 u_X8_isStart L_X8_isStart = true := by decide +kernel
theorem k_X8_isStart : q_chk RX8 fl_X8 ld_X8 u_X8_isStart = true := by decide +kernel
def b_X8_holdAt_0 : List QE := [(.aload_n 0, 1, []), (.getfield 21, 4, []), (.iload_n 1, 5, []), (.invokevirtual 47, 8, []), (.ifCond .eq 11, 11, [(0, 19)])]
def b_X8_holdAt_11 : List QE := [(.aload_n 0, 12, []), (.iload_n 1, 13, []), (.invokevirtual 57, 16, []), (.goto 36, 19, [(0, 52)])]
def b_X8_holdAt_19 : List QE := [(.aload_n 0, 20, []), (.getfield 21, 23, []), (.iload_n 1, 24, []), (.invokevirtual 50, 27, []), (.ifCond .eq 11, 30, [(0, 38)])]
def b_X8_holdAt_30 : List QE := [(.aload_n 0, 31, []), (.iload_n 1, 32, []), (.invokevirtual 60, 35, []), (.goto 17, 38, [(0, 52)])]
def b_X8_holdAt_38 : List QE := [(.aload_n 0, 39, []), (.iconst 4, 40, []), (.aload_n 0, 41, []), (.getfield 21, 44, []), (.iload_n 1, 45, []), (.invokevirtual 53, 48, []), (.iload_n 1, 49, []), (.invokevirtual 43, 52, [])]
def b_X8_holdAt_52 : List QE := [(.return_, 53, [])]
def L_X8_holdAt : List (Nat × Option (List QE)) := [(0, some b_X8_holdAt_0), (11, some b_X8_holdAt_11), (19, some b_X8_holdAt_19), (30, some b_X8_holdAt_30), (38, some b_X8_holdAt_38), (52, some b_X8_holdAt_52)]
def s_X8_holdAt : Nat → Option (List QE) := q_look L_X8_holdAt
theorem s_X8_holdAt_0 : s_X8_holdAt 0 = some b_X8_holdAt_0 := id rfl
theorem s_X8_holdAt_11 : s_X8_holdAt 11 = some b_X8_holdAt_11 := id rfl
theorem s_X8_holdAt_19 : s_X8_holdAt 19 = some b_X8_holdAt_19 := id rfl
theorem s_X8_holdAt_30 : s_X8_holdAt 30 = some b_X8_holdAt_30 := id rfl
theorem s_X8_holdAt_38 : s_X8_holdAt 38 = some b_X8_holdAt_38 := id rfl
theorem s_X8_holdAt_52 : s_X8_holdAt 52 = some b_X8_holdAt_52 := id rfl
def u_X8_holdAt : QU := ([21], [], [], [], [47, 57, 50, 60, 53, 43], [], [])
theorem o_X8_holdAt : q_skok cX8_holdAt 2 u_X8_holdAt L_X8_holdAt = true := by decide +kernel
theorem k_X8_holdAt : q_chk RX8 fl_X8 ld_X8 u_X8_holdAt = true := by decide +kernel
def b_X8_hold_0 : List QE := [(.aload_n 0, 1, []), (.getfield 29, 4, []), (.sipush 300, 7, []), (.if_icmp .gt 43, 10, [(0, 50)])]
def b_X8_hold_10 : List QE := [(.aload_n 0, 11, []), (.getfield 9, 14, []), (.aload_n 0, 15, []), (.getfield 29, 18, []), (.iload_n 1, 19, []), (.iastore, 20, []), (.aload_n 0, 21, []), (.getfield 15, 24, []), (.aload_n 0, 25, []), (.getfield 29, 28, []), (.iload_n 2, 29, []), (.iastore, 30, []), (.aload_n 0, 31, []), (.getfield 18, 34, []), (.aload_n 0, 35, []), (.getfield 29, 38, []), (.iload_n 3, 39, []), (.iastore, 40, []), (.aload_n 0, 41, []), (.dup, 42, []), (.getfield 29, 45, []), (.iconst 1, 46, []), (.iadd, 47, []), (.putfield 29, 50, [])]
def b_X8_hold_50 : List QE := [(.return_, 51, [])]
def L_X8_hold : List (Nat × Option (List QE)) := [(0, some b_X8_hold_0), (10, some b_X8_hold_10), (50, some b_X8_hold_50)]
def s_X8_hold : Nat → Option (List QE) := q_look L_X8_hold
theorem s_X8_hold_0 : s_X8_hold 0 = some b_X8_hold_0 := id rfl
theorem s_X8_hold_10 : s_X8_hold 10 = some b_X8_hold_10 := id rfl
theorem s_X8_hold_50 : s_X8_hold 50 = some b_X8_hold_50 := id rfl
def u_X8_hold : QU := ([29, 9, 15, 18], [29], [], [], [], [], [])
theorem o_X8_hold : q_skok cX8_hold 4 u_X8_hold L_X8_hold = true := by decide +kernel
theorem k_X8_hold : q_chk RX8 fl_X8 ld_X8 u_X8_hold = true := by decide +kernel
def b_X8_holdLetters_0 : List QE := [(.iload_n 1, 1, []), (.iconst 1, 2, []), (.iadd, 3, []), (.istore_n 2, 4, [])]
def b_X8_holdLetters_4 : List QE := [(.iload_n 2, 5, []), (.aload_n 0, 6, []), (.getfield 21, 9, []), (.getfield 32, 12, []), (.if_icmp .ge 20, 15, [(0, 32)])]
def b_X8_holdLetters_15 : List QE := [(.aload_n 0, 16, []), (.getfield 21, 19, []), (.iload_n 2, 20, []), (.invokevirtual 47, 23, []), (.ifCond .eq 9, 26, [(0, 32)])]
def b_X8_holdLetters_26 : List QE := [(.iinc 2 1, 29, []), (.goto (-25), 32, [(0, 4)])]
def b_X8_holdLetters_32 : List QE := [(.iload_n 2, 33, []), (.iload_n 1, 34, []), (.isub, 35, []), (.iconst 1, 36, []), (.if_icmp .ne 21, 39, [(0, 57)])]
def b_X8_holdLetters_39 : List QE := [(.aload_n 0, 40, []), (.iconst 1, 41, []), (.aload_n 0, 42, []), (.getfield 21, 45, []), (.iload_n 1, 46, []), (.invokevirtual 53, 49, []), (.bipush 97, 51, []), (.isub, 52, []), (.iload_n 1, 53, []), (.invokevirtual 43, 56, []), (.return_, 57, [])]
def b_X8_holdLetters_57 : List QE := [(.iconst 0, 58, []), (.istore_n 3, 59, [])]
def b_X8_holdLetters_59 : List QE := [(.iload_n 3, 60, []), (.bipush 15, 62, []), (.if_icmp .ge 30, 65, [(0, 92)])]
def b_X8_holdLetters_65 : List QE := [(.aload_n 0, 66, []), (.iload_n 3, 67, []), (.invokestatic 63, 70, []), (.iload_n 1, 71, []), (.iload_n 2, 72, []), (.invokevirtual 67, 75, []), (.ifCond .eq 11, 78, [(0, 86)])]
def b_X8_holdLetters_78 : List QE := [(.aload_n 0, 79, []), (.iconst 2, 80, []), (.iload_n 3, 81, []), (.iload_n 1, 82, []), (.invokevirtual 43, 85, []), (.return_, 86, [])]
def b_X8_holdLetters_86 : List QE := [(.iinc 3 1, 89, []), (.goto (-30), 92, [(0, 59)])]
def b_X8_holdLetters_92 : List QE := [(.aload_n 0, 93, []), (.iconst 5, 94, []), (.iconst 0, 95, []), (.iload_n 1, 96, []), (.invokevirtual 43, 99, []), (.return_, 100, [])]
def L_X8_holdLetters : List (Nat × Option (List QE)) := [(0, some b_X8_holdLetters_0), (4, none), (15, some b_X8_holdLetters_15), (26, some b_X8_holdLetters_26), (32, some b_X8_holdLetters_32), (39, some b_X8_holdLetters_39), (57, some b_X8_holdLetters_57), (59, none), (65, some b_X8_holdLetters_65), (78, some b_X8_holdLetters_78), (86, some b_X8_holdLetters_86), (92, some b_X8_holdLetters_92)]
def s_X8_holdLetters : Nat → Option (List QE) := q_look L_X8_holdLetters
theorem s_X8_holdLetters_0 : s_X8_holdLetters 0 = some b_X8_holdLetters_0 := id rfl
theorem s_X8_holdLetters_4 : s_X8_holdLetters 4 = none := id rfl
theorem s_X8_holdLetters_15 : s_X8_holdLetters 15 = some b_X8_holdLetters_15 := id rfl
theorem s_X8_holdLetters_26 : s_X8_holdLetters 26 = some b_X8_holdLetters_26 := id rfl
theorem s_X8_holdLetters_32 : s_X8_holdLetters 32 = some b_X8_holdLetters_32 := id rfl
theorem s_X8_holdLetters_39 : s_X8_holdLetters 39 = some b_X8_holdLetters_39 := id rfl
theorem s_X8_holdLetters_57 : s_X8_holdLetters 57 = some b_X8_holdLetters_57 := id rfl
theorem s_X8_holdLetters_59 : s_X8_holdLetters 59 = none := id rfl
theorem s_X8_holdLetters_65 : s_X8_holdLetters 65 = some b_X8_holdLetters_65 := id rfl
theorem s_X8_holdLetters_78 : s_X8_holdLetters 78 = some b_X8_holdLetters_78 := id rfl
theorem s_X8_holdLetters_86 : s_X8_holdLetters 86 = some b_X8_holdLetters_86 := id rfl
theorem s_X8_holdLetters_92 : s_X8_holdLetters 92 = some b_X8_holdLetters_92 := id rfl
def u_X8_holdLetters : QU := ([21, 32], [], [], [], [47, 53, 43, 67], [63], [])
theorem o_X8_holdLetters : q_skok cX8_holdLetters 4 u_X8_holdLetters L_X8_holdLetters = true := by decide +kernel
theorem o_X8_holdLetters_59 : q_ok cX8_holdLetters 4 u_X8_holdLetters 59 b_X8_holdLetters_59 = true := by decide +kernel
theorem o_X8_holdLetters_4 : q_ok cX8_holdLetters 4 u_X8_holdLetters 4 b_X8_holdLetters_4 = true := by decide +kernel
theorem k_X8_holdLetters : q_chk RX8 fl_X8 ld_X8 u_X8_holdLetters = true := by decide +kernel
def b_X8_holdDigits_0 : List QE := [(.iconst 0, 1, []), (.istore_n 2, 2, []), (.iload_n 1, 3, []), (.istore_n 3, 4, [])]
def b_X8_holdDigits_4 : List QE := [(.iload_n 3, 5, []), (.aload_n 0, 6, []), (.getfield 21, 9, []), (.getfield 32, 12, []), (.if_icmp .ge 42, 15, [(0, 54)])]
def b_X8_holdDigits_15 : List QE := [(.aload_n 0, 16, []), (.getfield 21, 19, []), (.iload_n 3, 20, []), (.invokevirtual 50, 23, []), (.ifCond .eq 31, 26, [(0, 54)])]
def b_X8_holdDigits_26 : List QE := [(.iload_n 2, 27, []), (.bipush 10, 29, []), (.imul, 30, []), (.aload_n 0, 31, []), (.getfield 21, 34, []), (.iload_n 3, 35, []), (.invokevirtual 53, 38, []), (.iadd, 39, []), (.bipush 48, 41, []), (.isub, 42, []), (.ldc 71, 44, []), (.invokestatic 72, 47, []), (.istore_n 2, 48, []), (.iinc 3 1, 51, []), (.goto (-47), 54, [(0, 4)])]
def b_X8_holdDigits_54 : List QE := [(.aload_n 0, 55, []), (.iconst 3, 56, []), (.iload_n 2, 57, []), (.iload_n 1, 58, []), (.invokevirtual 43, 61, []), (.return_, 62, [])]
def L_X8_holdDigits : List (Nat × Option (List QE)) := [(0, some b_X8_holdDigits_0), (4, none), (15, some b_X8_holdDigits_15), (26, some b_X8_holdDigits_26), (54, some b_X8_holdDigits_54)]
def s_X8_holdDigits : Nat → Option (List QE) := q_look L_X8_holdDigits
theorem s_X8_holdDigits_0 : s_X8_holdDigits 0 = some b_X8_holdDigits_0 := id rfl
theorem s_X8_holdDigits_4 : s_X8_holdDigits 4 = none := id rfl
theorem s_X8_holdDigits_15 : s_X8_holdDigits 15 = some b_X8_holdDigits_15 := id rfl
theorem s_X8_holdDigits_26 : s_X8_holdDigits 26 = some b_X8_holdDigits_26 := id rfl
theorem s_X8_holdDigits_54 : s_X8_holdDigits 54 = some b_X8_holdDigits_54 := id rfl
def u_X8_holdDigits : QU := ([21, 32], [], [71], [], [50, 53, 43], [72], [])
theorem o_X8_holdDigits : q_skok cX8_holdDigits 4 u_X8_holdDigits L_X8_holdDigits = true := by decide +kernel
theorem o_X8_holdDigits_4 : q_ok cX8_holdDigits 4 u_X8_holdDigits 4 b_X8_holdDigits_4 = true := by decide +kernel
theorem k_X8_holdDigits : q_chk RX8 fl_X8 ld_X8 u_X8_holdDigits = true := by decide +kernel
def b_X8_isSpelled_0 : List QE := [(.iload_n 3, 1, []), (.iload_n 2, 2, []), (.isub, 3, []), (.aload_n 1, 4, []), (.invokevirtual 78, 7, []), (.if_icmp .eq 5, 10, [(0, 12)])]
def b_X8_isSpelled_10 : List QE := [(.iconst 0, 11, []), (.ireturn, 12, [])]
def b_X8_isSpelled_12 : List QE := [(.iconst 0, 13, []), (.istore 4, 15, [])]
def b_X8_isSpelled_15 : List QE := [(.iload 4, 17, []), (.aload_n 1, 18, []), (.invokevirtual 78, 21, []), (.if_icmp .ge 31, 24, [(0, 52)])]
def b_X8_isSpelled_24 : List QE := [(.aload_n 0, 25, []), (.getfield 21, 28, []), (.iload_n 2, 29, []), (.iload 4, 31, []), (.iadd, 32, []), (.invokevirtual 53, 35, []), (.aload_n 1, 36, []), (.iload 4, 38, []), (.invokevirtual 83, 41, []), (.if_icmp .eq 5, 44, [(0, 46)])]
def b_X8_isSpelled_44 : List QE := [(.iconst 0, 45, []), (.ireturn, 46, [])]
def b_X8_isSpelled_46 : List QE := [(.iinc 4 1, 49, []), (.goto (-34), 52, [(0, 15)])]
def b_X8_isSpelled_52 : List QE := [(.iconst 1, 53, []), (.ireturn, 54, [])]
def L_X8_isSpelled : List (Nat × Option (List QE)) := [(0, some b_X8_isSpelled_0), (10, some b_X8_isSpelled_10), (12, some b_X8_isSpelled_12), (15, none), (24, some b_X8_isSpelled_24), (44, some b_X8_isSpelled_44), (46, some b_X8_isSpelled_46), (52, some b_X8_isSpelled_52)]
def s_X8_isSpelled : Nat → Option (List QE) := q_look L_X8_isSpelled
theorem s_X8_isSpelled_0 : s_X8_isSpelled 0 = some b_X8_isSpelled_0 := id rfl
theorem s_X8_isSpelled_10 : s_X8_isSpelled 10 = some b_X8_isSpelled_10 := id rfl
theorem s_X8_isSpelled_12 : s_X8_isSpelled 12 = some b_X8_isSpelled_12 := id rfl
theorem s_X8_isSpelled_15 : s_X8_isSpelled 15 = none := id rfl
theorem s_X8_isSpelled_24 : s_X8_isSpelled 24 = some b_X8_isSpelled_24 := id rfl
theorem s_X8_isSpelled_44 : s_X8_isSpelled 44 = some b_X8_isSpelled_44 := id rfl
theorem s_X8_isSpelled_46 : s_X8_isSpelled 46 = some b_X8_isSpelled_46 := id rfl
theorem s_X8_isSpelled_52 : s_X8_isSpelled 52 = some b_X8_isSpelled_52 := id rfl
def u_X8_isSpelled : QU := ([21], [], [], [], [78, 53, 83], [], [])
theorem o_X8_isSpelled : q_skok cX8_isSpelled 5 u_X8_isSpelled L_X8_isSpelled = true := by decide +kernel
theorem o_X8_isSpelled_15 : q_ok cX8_isSpelled 5 u_X8_isSpelled 15 b_X8_isSpelled_15 = true := by decide +kernel
theorem k_X8_isSpelled : q_chk RX8 fl_X8 ld_X8 u_X8_isSpelled = true := by decide +kernel
def b_X8_spelling_0 : List QE := [(.iload_n 0, 1, []), (.tableswitch 120 0 14 #[75, 78, 81, 84, 87, 90, 93, 96, 99, 102, 105, 108, 111, 114, 117], 76, [(0, 76), (1, 79), (2, 82), (3, 85), (4, 88), (5, 91), (6, 94), (7, 97), (8, 100), (9, 103), (10, 106), (11, 109), (12, 112), (13, 115), (14, 118), (0, 121)])]
def b_X8_spelling_76 : List QE := [(.ldc 86, 78, []), (.areturn, 79, [])]
def b_X8_spelling_79 : List QE := [(.ldc 88, 81, []), (.areturn, 82, [])]
def b_X8_spelling_82 : List QE := [(.ldc 90, 84, []), (.areturn, 85, [])]
def b_X8_spelling_85 : List QE := [(.ldc 92, 87, []), (.areturn, 88, [])]
def b_X8_spelling_88 : List QE := [(.ldc 94, 90, []), (.areturn, 91, [])]
def b_X8_spelling_91 : List QE := [(.ldc 96, 93, []), (.areturn, 94, [])]
def b_X8_spelling_94 : List QE := [(.ldc 98, 96, []), (.areturn, 97, [])]
def b_X8_spelling_97 : List QE := [(.ldc 100, 99, []), (.areturn, 100, [])]
def b_X8_spelling_100 : List QE := [(.ldc 102, 102, []), (.areturn, 103, [])]
def b_X8_spelling_103 : List QE := [(.ldc 104, 105, []), (.areturn, 106, [])]
def b_X8_spelling_106 : List QE := [(.ldc 106, 108, []), (.areturn, 109, [])]
def b_X8_spelling_109 : List QE := [(.ldc 108, 111, []), (.areturn, 112, [])]
def b_X8_spelling_112 : List QE := [(.ldc 110, 114, []), (.areturn, 115, [])]
def b_X8_spelling_115 : List QE := [(.ldc 112, 117, []), (.areturn, 118, [])]
def b_X8_spelling_118 : List QE := [(.ldc 114, 120, []), (.areturn, 121, [])]
def b_X8_spelling_121 : List QE := [(.ldc 116, 123, []), (.areturn, 124, [])]
def L_X8_spelling : List (Nat × Option (List QE)) := [(0, some b_X8_spelling_0), (76, some b_X8_spelling_76), (79, some b_X8_spelling_79), (82, some b_X8_spelling_82), (85, some b_X8_spelling_85), (88, some b_X8_spelling_88), (91, some b_X8_spelling_91), (94, some b_X8_spelling_94), (97, some b_X8_spelling_97), (100, some b_X8_spelling_100), (103, some b_X8_spelling_103), (106, some b_X8_spelling_106), (109, some b_X8_spelling_109), (112, some b_X8_spelling_112), (115, some b_X8_spelling_115), (118, some b_X8_spelling_118), (121, some b_X8_spelling_121)]
def s_X8_spelling : Nat → Option (List QE) := q_look L_X8_spelling
theorem s_X8_spelling_0 : s_X8_spelling 0 = some b_X8_spelling_0 := id rfl
theorem s_X8_spelling_76 : s_X8_spelling 76 = some b_X8_spelling_76 := id rfl
theorem s_X8_spelling_79 : s_X8_spelling 79 = some b_X8_spelling_79 := id rfl
theorem s_X8_spelling_82 : s_X8_spelling 82 = some b_X8_spelling_82 := id rfl
theorem s_X8_spelling_85 : s_X8_spelling 85 = some b_X8_spelling_85 := id rfl
theorem s_X8_spelling_88 : s_X8_spelling 88 = some b_X8_spelling_88 := id rfl
theorem s_X8_spelling_91 : s_X8_spelling 91 = some b_X8_spelling_91 := id rfl
theorem s_X8_spelling_94 : s_X8_spelling 94 = some b_X8_spelling_94 := id rfl
theorem s_X8_spelling_97 : s_X8_spelling 97 = some b_X8_spelling_97 := id rfl
theorem s_X8_spelling_100 : s_X8_spelling 100 = some b_X8_spelling_100 := id rfl
theorem s_X8_spelling_103 : s_X8_spelling 103 = some b_X8_spelling_103 := id rfl
theorem s_X8_spelling_106 : s_X8_spelling 106 = some b_X8_spelling_106 := id rfl
theorem s_X8_spelling_109 : s_X8_spelling 109 = some b_X8_spelling_109 := id rfl
theorem s_X8_spelling_112 : s_X8_spelling 112 = some b_X8_spelling_112 := id rfl
theorem s_X8_spelling_115 : s_X8_spelling 115 = some b_X8_spelling_115 := id rfl
theorem s_X8_spelling_118 : s_X8_spelling 118 = some b_X8_spelling_118 := id rfl
theorem s_X8_spelling_121 : s_X8_spelling 121 = some b_X8_spelling_121 := id rfl
def u_X8_spelling : QU := ([], [], [], [86, 88, 90, 92, 94, 96, 98, 100, 102, 104, 106, 108, 110, 112, 114, 116], [], [], [])
theorem o_X8_spelling : q_skok cX8_spelling 1 u_X8_spelling L_X8_spelling = true := by decide +kernel
theorem k_X8_spelling : q_chk RX8 fl_X8 ld_X8 u_X8_spelling = true := by decide +kernel
def b_X8_place_0 : List QE := [(.aload_n 0, 1, []), (.getfield 18, 4, []), (.aload_n 0, 5, []), (.getfield 25, 8, []), (.iaload, 9, []), (.ireturn, 10, [])]
def L_X8_place : List (Nat × Option (List QE)) := [(0, some b_X8_place_0)]
def s_X8_place : Nat → Option (List QE) := q_look L_X8_place
theorem s_X8_place_0 : s_X8_place 0 = some b_X8_place_0 := id rfl
def u_X8_place : QU := ([18, 25], [], [], [], [], [], [])
theorem o_X8_place : q_skok cX8_place 1 u_X8_place L_X8_place = true := by decide +kernel
theorem k_X8_place : q_chk RX8 fl_X8 ld_X8 u_X8_place = true := by decide +kernel
def b_X8_isEnd_0 : List QE := [(.aload_n 0, 1, []), (.getfield 9, 4, []), (.aload_n 0, 5, []), (.getfield 25, 8, []), (.iaload, 9, []), (.ifCond .ne 7, 12, [(0, 16)])]
def b_X8_isEnd_12 : List QE := [(.iconst 1, 13, []), (.goto 4, 16, [(0, 17)])]
def b_X8_isEnd_16 : List QE := [(.iconst 0, 17, [])]
def b_X8_isEnd_17 : List QE := [(.ireturn, 18, [])]
def L_X8_isEnd : List (Nat × Option (List QE)) := [(0, some b_X8_isEnd_0), (12, some b_X8_isEnd_12), (16, some b_X8_isEnd_16), (17, some b_X8_isEnd_17)]
def s_X8_isEnd : Nat → Option (List QE) := q_look L_X8_isEnd
theorem s_X8_isEnd_0 : s_X8_isEnd 0 = some b_X8_isEnd_0 := id rfl
theorem s_X8_isEnd_12 : s_X8_isEnd 12 = some b_X8_isEnd_12 := id rfl
theorem s_X8_isEnd_16 : s_X8_isEnd 16 = some b_X8_isEnd_16 := id rfl
theorem s_X8_isEnd_17 : s_X8_isEnd 17 = some b_X8_isEnd_17 := id rfl
def u_X8_isEnd : QU := ([9, 25], [], [], [], [], [], [])
theorem o_X8_isEnd : q_skok cX8_isEnd 1 u_X8_isEnd L_X8_isEnd = true := by decide +kernel
theorem k_X8_isEnd : q_chk RX8 fl_X8 ld_X8 u_X8_isEnd = true := by decide +kernel
def b_X8_look_0 : List QE := [(.aload_n 0, 1, []), (.getfield 9, 4, []), (.aload_n 0, 5, []), (.getfield 25, 8, []), (.iaload, 9, []), (.iload_n 1, 10, []), (.if_icmp .ne 15, 13, [(0, 25)])]
def b_X8_look_13 : List QE := [(.aload_n 0, 14, []), (.getfield 15, 17, []), (.aload_n 0, 18, []), (.getfield 25, 21, []), (.iaload, 22, []), (.goto 4, 25, [(0, 26)])]
def b_X8_look_25 : List QE := [(.iconst (-1), 26, [])]
def b_X8_look_26 : List QE := [(.ireturn, 27, [])]
def L_X8_look : List (Nat × Option (List QE)) := [(0, some b_X8_look_0), (13, some b_X8_look_13), (25, some b_X8_look_25), (26, some b_X8_look_26)]
def s_X8_look : Nat → Option (List QE) := q_look L_X8_look
theorem s_X8_look_0 : s_X8_look 0 = some b_X8_look_0 := id rfl
theorem s_X8_look_13 : s_X8_look 13 = some b_X8_look_13 := id rfl
theorem s_X8_look_25 : s_X8_look 25 = some b_X8_look_25 := id rfl
theorem s_X8_look_26 : s_X8_look 26 = some b_X8_look_26 := id rfl
def u_X8_look : QU := ([9, 25, 15], [], [], [], [], [], [])
theorem o_X8_look : q_skok cX8_look 2 u_X8_look L_X8_look = true := by decide +kernel
theorem k_X8_look : q_chk RX8 fl_X8 ld_X8 u_X8_look = true := by decide +kernel
def b_X8_step_0 : List QE := [(.aload_n 0, 1, []), (.getfield 25, 4, []), (.aload_n 0, 5, []), (.getfield 29, 8, []), (.iconst 1, 9, []), (.isub, 10, []), (.if_icmp .ge 13, 13, [(0, 23)])]
def b_X8_step_13 : List QE := [(.aload_n 0, 14, []), (.dup, 15, []), (.getfield 25, 18, []), (.iconst 1, 19, []), (.iadd, 20, []), (.putfield 25, 23, [])]
def b_X8_step_23 : List QE := [(.return_, 24, [])]
def L_X8_step : List (Nat × Option (List QE)) := [(0, some b_X8_step_0), (13, some b_X8_step_13), (23, some b_X8_step_23)]
def s_X8_step : Nat → Option (List QE) := q_look L_X8_step
theorem s_X8_step_0 : s_X8_step 0 = some b_X8_step_0 := id rfl
theorem s_X8_step_13 : s_X8_step 13 = some b_X8_step_13 := id rfl
theorem s_X8_step_23 : s_X8_step 23 = some b_X8_step_23 := id rfl
def u_X8_step : QU := ([25, 29], [25], [], [], [], [], [])
theorem o_X8_step : q_skok cX8_step 1 u_X8_step L_X8_step = true := by decide +kernel
theorem k_X8_step : q_chk RX8 fl_X8 ld_X8 u_X8_step = true := by decide +kernel
def b_X8_pass_0 : List QE := [(.aload_n 0, 1, []), (.iconst 4, 2, []), (.invokevirtual 118, 5, []), (.iload_n 1, 6, []), (.if_icmp .ne 7, 9, [(0, 13)])]
def b_X8_pass_9 : List QE := [(.iconst 1, 10, []), (.goto 4, 13, [(0, 14)])]
def b_X8_pass_13 : List QE := [(.iconst 0, 14, [])]
def b_X8_pass_14 : List QE := [(.istore_n 2, 15, []), (.iload_n 2, 16, []), (.ifCond .eq 7, 19, [(0, 23)])]
def b_X8_pass_19 : List QE := [(.aload_n 0, 20, []), (.invokevirtual 122, 23, [])]
def b_X8_pass_23 : List QE := [(.iload_n 2, 24, []), (.ireturn, 25, [])]
def L_X8_pass : List (Nat × Option (List QE)) := [(0, some b_X8_pass_0), (9, some b_X8_pass_9), (13, some b_X8_pass_13), (14, some b_X8_pass_14), (19, some b_X8_pass_19), (23, some b_X8_pass_23)]
def s_X8_pass : Nat → Option (List QE) := q_look L_X8_pass
theorem s_X8_pass_0 : s_X8_pass 0 = some b_X8_pass_0 := id rfl
theorem s_X8_pass_9 : s_X8_pass 9 = some b_X8_pass_9 := id rfl
theorem s_X8_pass_13 : s_X8_pass 13 = some b_X8_pass_13 := id rfl
theorem s_X8_pass_14 : s_X8_pass 14 = some b_X8_pass_14 := id rfl
theorem s_X8_pass_19 : s_X8_pass 19 = some b_X8_pass_19 := id rfl
theorem s_X8_pass_23 : s_X8_pass 23 = some b_X8_pass_23 := id rfl
def u_X8_pass : QU := ([], [], [], [], [118, 122], [], [])
theorem o_X8_pass : q_skok cX8_pass 3 u_X8_pass L_X8_pass = true := by decide +kernel
theorem k_X8_pass : q_chk RX8 fl_X8 ld_X8 u_X8_pass = true := by decide +kernel
def b_X9_follow_0 : List QE := [(.aload_n 0, 1, []), (.aload_n 1, 2, []), (.putfield 27, 5, []), (.aload_n 0, 6, []), (.getfield 9, 9, []), (.iconst 0, 10, []), (.invokestatic 43, 13, []), (.return_, 14, [])]
def L_X9_follow : List (Nat × Option (List QE)) := [(0, some b_X9_follow_0)]
def s_X9_follow : Nat → Option (List QE) := q_look L_X9_follow
theorem s_X9_follow_0 : s_X9_follow 0 = some b_X9_follow_0 := id rfl
def u_X9_follow : QU := ([27, 9], [27], [], [], [], [43], [])
theorem o_X9_follow : q_skok cX9_follow 2 u_X9_follow L_X9_follow = true := by decide +kernel
theorem k_X9_follow : q_chk RX9 fl_X9 ld_X9 u_X9_follow = true := by decide +kernel
def b_X9_empty_0 : List QE := [(.aload_n 0, 1, []), (.getfield 9, 4, []), (.iconst 0, 5, []), (.invokestatic 43, 8, []), (.iconst 0, 9, []), (.istore_n 1, 10, [])]
def b_X9_empty_10 : List QE := [(.iload_n 1, 11, []), (.bipush 10, 13, []), (.if_icmp .ge 20, 16, [(0, 33)])]
def b_X9_empty_16 : List QE := [(.aload_n 0, 17, []), (.getfield 20, 20, []), (.iload_n 1, 21, []), (.aaload, 22, []), (.ldc 49, 24, []), (.invokestatic 43, 27, []), (.iinc 1 1, 30, []), (.goto (-20), 33, [(0, 10)])]
def b_X9_empty_33 : List QE := [(.return_, 34, [])]
def L_X9_empty : List (Nat × Option (List QE)) := [(0, some b_X9_empty_0), (10, none), (16, some b_X9_empty_16), (33, some b_X9_empty_33)]
def s_X9_empty : Nat → Option (List QE) := q_look L_X9_empty
theorem s_X9_empty_0 : s_X9_empty 0 = some b_X9_empty_0 := id rfl
theorem s_X9_empty_10 : s_X9_empty 10 = none := id rfl
theorem s_X9_empty_16 : s_X9_empty 16 = some b_X9_empty_16 := id rfl
theorem s_X9_empty_33 : s_X9_empty 33 = some b_X9_empty_33 := id rfl
def u_X9_empty : QU := ([9, 20], [], [49], [], [], [43], [])
theorem o_X9_empty : q_skok cX9_empty 2 u_X9_empty L_X9_empty = true := by decide +kernel
theorem o_X9_empty_10 : q_ok cX9_empty 2 u_X9_empty 10 b_X9_empty_10 = true := by decide +kernel
theorem k_X9_empty : q_chk RX9 fl_X9 ld_X9 u_X9_empty = true := by decide +kernel
def b_X9_isFresh_0 : List QE := [(.aload_n 0, 1, []), (.getfield 9, 4, []), (.iload_n 1, 5, []), (.iaload, 6, []), (.iload_n 2, 7, []), (.ishr, 8, []), (.iconst 1, 9, []), (.iand, 10, []), (.ifCond .eq 7, 13, [(0, 17)])]
def b_X9_isFresh_13 : List QE := [(.iconst 1, 14, []), (.goto 4, 17, [(0, 18)])]
def b_X9_isFresh_17 : List QE := [(.iconst 0, 18, [])]
def b_X9_isFresh_18 : List QE := [(.ireturn, 19, [])]
def L_X9_isFresh : List (Nat × Option (List QE)) := [(0, some b_X9_isFresh_0), (13, some b_X9_isFresh_13), (17, some b_X9_isFresh_17), (18, some b_X9_isFresh_18)]
def s_X9_isFresh : Nat → Option (List QE) := q_look L_X9_isFresh
theorem s_X9_isFresh_0 : s_X9_isFresh 0 = some b_X9_isFresh_0 := id rfl
theorem s_X9_isFresh_13 : s_X9_isFresh 13 = some b_X9_isFresh_13 := id rfl
theorem s_X9_isFresh_17 : s_X9_isFresh 17 = some b_X9_isFresh_17 := id rfl
theorem s_X9_isFresh_18 : s_X9_isFresh 18 = some b_X9_isFresh_18 := id rfl
def u_X9_isFresh : QU := ([9], [], [], [], [], [], [])
theorem o_X9_isFresh : q_skok cX9_isFresh 3 u_X9_isFresh L_X9_isFresh = true := by decide +kernel
theorem k_X9_isFresh : q_chk RX9 fl_X9 ld_X9 u_X9_isFresh = true := by decide +kernel
def b_X9_freshInAll_0 : List QE := [(.iconst 0, 1, []), (.istore_n 1, 2, []), (.iconst 0, 3, []), (.istore_n 2, 4, [])]
def b_X9_freshInAll_4 : List QE := [(.iload_n 2, 5, []), (.bipush 10, 7, []), (.if_icmp .ge 21, 10, [(0, 28)])]
def b_X9_freshInAll_10 : List QE := [(.iload_n 1, 11, []), (.aload_n 0, 12, []), (.getfield 9, 15, []), (.iload_n 2, 16, []), (.iaload, 17, []), (.invokestatic 50, 20, []), (.iadd, 21, []), (.istore_n 1, 22, []), (.iinc 2 1, 25, []), (.goto (-21), 28, [(0, 4)])]
def b_X9_freshInAll_28 : List QE := [(.iload_n 1, 29, []), (.ireturn, 30, [])]
def L_X9_freshInAll : List (Nat × Option (List QE)) := [(0, some b_X9_freshInAll_0), (4, none), (10, some b_X9_freshInAll_10), (28, some b_X9_freshInAll_28)]
def s_X9_freshInAll : Nat → Option (List QE) := q_look L_X9_freshInAll
theorem s_X9_freshInAll_0 : s_X9_freshInAll 0 = some b_X9_freshInAll_0 := id rfl
theorem s_X9_freshInAll_4 : s_X9_freshInAll 4 = none := id rfl
theorem s_X9_freshInAll_10 : s_X9_freshInAll 10 = some b_X9_freshInAll_10 := id rfl
theorem s_X9_freshInAll_28 : s_X9_freshInAll 28 = some b_X9_freshInAll_28 := id rfl
def u_X9_freshInAll : QU := ([9], [], [], [], [], [50], [])
theorem o_X9_freshInAll : q_skok cX9_freshInAll 3 u_X9_freshInAll L_X9_freshInAll = true := by decide +kernel
theorem o_X9_freshInAll_4 : q_ok cX9_freshInAll 3 u_X9_freshInAll 4 b_X9_freshInAll_4 = true := by decide +kernel
theorem k_X9_freshInAll : q_chk RX9 fl_X9 ld_X9 u_X9_freshInAll = true := by decide +kernel
def b_X9_ask_0 : List QE := [(.aload_n 0, 1, []), (.iload_n 1, 2, []), (.iload_n 2, 3, []), (.invokevirtual 56, 6, []), (.ifCond .eq 4, 9, [(0, 10)])]
def b_X9_ask_9 : List QE := [(.return_, 10, [])]
def b_X9_ask_10 : List QE := [(.aload_n 0, 11, []), (.iload_n 1, 12, []), (.iload_n 2, 13, []), (.invokevirtual 60, 16, []), (.iconst 0, 17, []), (.istore_n 3, 18, [])]
def b_X9_ask_18 : List QE := [(.iload_n 3, 19, []), (.iload_n 1, 20, []), (.if_icmp .gt 29, 23, [(0, 49)])]
def b_X9_ask_23 : List QE := [(.aload_n 0, 24, []), (.iload_n 3, 25, []), (.aload_n 0, 26, []), (.getfield 15, 29, []), (.iload_n 3, 30, []), (.iaload, 31, []), (.aload_n 0, 32, []), (.getfield 9, 35, []), (.iload_n 3, 36, []), (.iaload, 37, []), (.iconst (-1), 38, []), (.ixor, 39, []), (.iand, 40, []), (.invokevirtual 64, 43, []), (.iinc 3 1, 46, []), (.goto (-28), 49, [(0, 18)])]
def b_X9_ask_49 : List QE := [(.return_, 50, [])]
def L_X9_ask : List (Nat × Option (List QE)) := [(0, some b_X9_ask_0), (9, some b_X9_ask_9), (10, some b_X9_ask_10), (18, none), (23, some b_X9_ask_23), (49, some b_X9_ask_49)]
def s_X9_ask : Nat → Option (List QE) := q_look L_X9_ask
theorem s_X9_ask_0 : s_X9_ask 0 = some b_X9_ask_0 := id rfl
theorem s_X9_ask_9 : s_X9_ask 9 = some b_X9_ask_9 := id rfl
theorem s_X9_ask_10 : s_X9_ask 10 = some b_X9_ask_10 := id rfl
theorem s_X9_ask_18 : s_X9_ask 18 = none := id rfl
theorem s_X9_ask_23 : s_X9_ask 23 = some b_X9_ask_23 := id rfl
theorem s_X9_ask_49 : s_X9_ask 49 = some b_X9_ask_49 := id rfl
def u_X9_ask : QU := ([15, 9], [], [], [], [56, 60, 64], [], [])
theorem o_X9_ask : q_skok cX9_ask 4 u_X9_ask L_X9_ask = true := by decide +kernel
theorem o_X9_ask_18 : q_ok cX9_ask 4 u_X9_ask 18 b_X9_ask_18 = true := by decide +kernel
theorem k_X9_ask : q_chk RX9 fl_X9 ld_X9 u_X9_ask = true := by decide +kernel
def b_X9_sources_0 : List QE := [(.aload_n 0, 1, []), (.iload_n 1, 2, []), (.iload_n 2, 3, []), (.invokevirtual 60, 6, []), (.iconst 0, 7, []), (.istore 4, 9, []), (.iconst 0, 10, []), (.istore 5, 12, [])]
def b_X9_sources_12 : List QE := [(.iload 5, 14, []), (.iload_n 1, 15, []), (.if_icmp .gt 50, 18, [(0, 65)])]
def b_X9_sources_18 : List QE := [(.aload_n 0, 19, []), (.getfield 27, 22, []), (.getfield 67, 25, []), (.iload 5, 27, []), (.aaload, 28, []), (.astore 6, 30, []), (.aload 6, 32, []), (.getfield 73, 35, []), (.ifCond .ne 24, 38, [(0, 59)])]
def b_X9_sources_38 : List QE := [(.aload 6, 40, []), (.getfield 79, 43, []), (.iload_n 3, 44, []), (.if_icmp .ne 15, 47, [(0, 59)])]
def b_X9_sources_47 : List QE := [(.iload 4, 49, []), (.aload_n 0, 50, []), (.getfield 15, 53, []), (.iload 5, 55, []), (.iaload, 56, []), (.ior, 57, []), (.istore 4, 59, [])]
def b_X9_sources_59 : List QE := [(.iinc 5 1, 62, []), (.goto (-50), 65, [(0, 12)])]
def b_X9_sources_65 : List QE := [(.iload 4, 67, []), (.ireturn, 68, [])]
def L_X9_sources : List (Nat × Option (List QE)) := [(0, some b_X9_sources_0), (12, none), (18, some b_X9_sources_18), (38, some b_X9_sources_38), (47, some b_X9_sources_47), (59, some b_X9_sources_59), (65, some b_X9_sources_65)]
def s_X9_sources : Nat → Option (List QE) := q_look L_X9_sources
theorem s_X9_sources_0 : s_X9_sources 0 = some b_X9_sources_0 := id rfl
theorem s_X9_sources_12 : s_X9_sources 12 = none := id rfl
theorem s_X9_sources_18 : s_X9_sources 18 = some b_X9_sources_18 := id rfl
theorem s_X9_sources_38 : s_X9_sources 38 = some b_X9_sources_38 := id rfl
theorem s_X9_sources_47 : s_X9_sources 47 = some b_X9_sources_47 := id rfl
theorem s_X9_sources_59 : s_X9_sources 59 = some b_X9_sources_59 := id rfl
theorem s_X9_sources_65 : s_X9_sources 65 = some b_X9_sources_65 := id rfl
def u_X9_sources : QU := ([27, 67, 73, 79, 15], [], [], [], [60], [], [])
theorem o_X9_sources : q_skok cX9_sources 7 u_X9_sources L_X9_sources = true := by decide +kernel
theorem o_X9_sources_12 : q_ok cX9_sources 7 u_X9_sources 12 b_X9_sources_12 = true := by decide +kernel
theorem k_X9_sources : q_chk RX9 fl_X9 ld_X9 u_X9_sources = true := by decide +kernel
def b_X9_lose_0 : List QE := [(.iconst 0, 1, []), (.istore_n 3, 2, [])]
def b_X9_lose_2 : List QE := [(.iload_n 3, 3, []), (.aload_n 0, 4, []), (.getfield 27, 7, []), (.getfield 82, 10, []), (.if_icmp .ge 49, 13, [(0, 59)])]
def b_X9_lose_13 : List QE := [(.aload_n 0, 14, []), (.getfield 15, 17, []), (.iload_n 3, 18, []), (.aload_n 0, 19, []), (.aload_n 0, 20, []), (.getfield 27, 23, []), (.getfield 67, 26, []), (.iload_n 3, 27, []), (.aaload, 28, []), (.iload_n 1, 29, []), (.iconst 1, 30, []), (.iload_n 2, 31, []), (.ishl, 32, []), (.invokevirtual 85, 35, []), (.iastore, 36, []), (.aload_n 0, 37, []), (.getfield 9, 40, []), (.iload_n 3, 41, []), (.dup2, 42, []), (.iaload, 43, []), (.aload_n 0, 44, []), (.getfield 15, 47, []), (.iload_n 3, 48, []), (.iaload, 49, []), (.iconst (-1), 50, []), (.ixor, 51, []), (.iand, 52, []), (.iastore, 53, []), (.iinc 3 1, 56, []), (.goto (-54), 59, [(0, 2)])]
def b_X9_lose_59 : List QE := [(.return_, 60, [])]
def L_X9_lose : List (Nat × Option (List QE)) := [(0, some b_X9_lose_0), (2, none), (13, some b_X9_lose_13), (59, some b_X9_lose_59)]
def s_X9_lose : Nat → Option (List QE) := q_look L_X9_lose
theorem s_X9_lose_0 : s_X9_lose 0 = some b_X9_lose_0 := id rfl
theorem s_X9_lose_2 : s_X9_lose 2 = none := id rfl
theorem s_X9_lose_13 : s_X9_lose 13 = some b_X9_lose_13 := id rfl
theorem s_X9_lose_59 : s_X9_lose 59 = some b_X9_lose_59 := id rfl
def u_X9_lose : QU := ([27, 82, 15, 67, 9], [], [], [], [85], [], [])
theorem o_X9_lose : q_skok cX9_lose 4 u_X9_lose L_X9_lose = true := by decide +kernel
theorem o_X9_lose_2 : q_ok cX9_lose 4 u_X9_lose 2 b_X9_lose_2 = true := by decide +kernel
theorem k_X9_lose : q_chk RX9 fl_X9 ld_X9 u_X9_lose = true := by decide +kernel
def b_X9_tilesFrom_0 : List QE := [(.aload_n 1, 1, []), (.getfield 73, 4, []), (.ifCond .ne 17, 7, [(0, 21)])]
def b_X9_tilesFrom_7 : List QE := [(.aload_n 1, 8, []), (.getfield 79, 11, []), (.iload_n 2, 12, []), (.if_icmp .ne 7, 15, [(0, 19)])]
def b_X9_tilesFrom_15 : List QE := [(.iload_n 3, 16, []), (.goto 4, 19, [(0, 20)])]
def b_X9_tilesFrom_19 : List QE := [(.iconst 0, 20, [])]
def b_X9_tilesFrom_20 : List QE := [(.ireturn, 21, [])]
def b_X9_tilesFrom_21 : List QE := [(.iconst 0, 22, []), (.istore 4, 24, []), (.iconst 0, 25, []), (.istore 5, 27, [])]
def b_X9_tilesFrom_27 : List QE := [(.iload 5, 29, []), (.aload_n 1, 30, []), (.getfield 89, 33, []), (.if_icmp .ge 26, 36, [(0, 59)])]
def b_X9_tilesFrom_36 : List QE := [(.iload 4, 38, []), (.aload_n 0, 39, []), (.getfield 15, 42, []), (.aload_n 1, 43, []), (.getfield 92, 46, []), (.iload 5, 48, []), (.iaload, 49, []), (.iaload, 50, []), (.ior, 51, []), (.istore 4, 53, []), (.iinc 5 1, 56, []), (.goto (-29), 59, [(0, 27)])]
def b_X9_tilesFrom_59 : List QE := [(.aload_n 0, 60, []), (.aload_n 1, 61, []), (.iload 4, 63, []), (.invokevirtual 95, 66, []), (.ireturn, 67, [])]
def L_X9_tilesFrom : List (Nat × Option (List QE)) := [(0, some b_X9_tilesFrom_0), (7, some b_X9_tilesFrom_7), (15, some b_X9_tilesFrom_15), (19, some b_X9_tilesFrom_19), (20, some b_X9_tilesFrom_20), (21, some b_X9_tilesFrom_21), (27, none), (36, some b_X9_tilesFrom_36), (59, some b_X9_tilesFrom_59)]
def s_X9_tilesFrom : Nat → Option (List QE) := q_look L_X9_tilesFrom
theorem s_X9_tilesFrom_0 : s_X9_tilesFrom 0 = some b_X9_tilesFrom_0 := id rfl
theorem s_X9_tilesFrom_7 : s_X9_tilesFrom 7 = some b_X9_tilesFrom_7 := id rfl
theorem s_X9_tilesFrom_15 : s_X9_tilesFrom 15 = some b_X9_tilesFrom_15 := id rfl
theorem s_X9_tilesFrom_19 : s_X9_tilesFrom 19 = some b_X9_tilesFrom_19 := id rfl
theorem s_X9_tilesFrom_20 : s_X9_tilesFrom 20 = some b_X9_tilesFrom_20 := id rfl
theorem s_X9_tilesFrom_21 : s_X9_tilesFrom 21 = some b_X9_tilesFrom_21 := id rfl
theorem s_X9_tilesFrom_27 : s_X9_tilesFrom 27 = none := id rfl
theorem s_X9_tilesFrom_36 : s_X9_tilesFrom 36 = some b_X9_tilesFrom_36 := id rfl
theorem s_X9_tilesFrom_59 : s_X9_tilesFrom 59 = some b_X9_tilesFrom_59 := id rfl
def u_X9_tilesFrom : QU := ([73, 79, 89, 15, 92], [], [], [], [95], [], [])
theorem o_X9_tilesFrom : q_skok cX9_tilesFrom 6 u_X9_tilesFrom L_X9_tilesFrom = true := by decide +kernel
theorem o_X9_tilesFrom_27 : q_ok cX9_tilesFrom 6 u_X9_tilesFrom 27 b_X9_tilesFrom_27 = true := by decide +kernel
theorem k_X9_tilesFrom : q_chk RX9 fl_X9 ld_X9 u_X9_tilesFrom = true := by decide +kernel
def b_X9_reachNeeded_0 : List QE := [(.aload_n 0, 1, []), (.getfield 15, 4, []), (.iconst 0, 5, []), (.invokestatic 43, 8, []), (.aload_n 0, 9, []), (.getfield 15, 12, []), (.iload_n 1, 13, []), (.iconst 1, 14, []), (.iload_n 2, 15, []), (.ishl, 16, []), (.iastore, 17, []), (.iload_n 1, 18, []), (.istore_n 3, 19, [])]
def b_X9_reachNeeded_19 : List QE := [(.iload_n 3, 20, []), (.ifCond .lt 71, 23, [(0, 91)])]
def b_X9_reachNeeded_23 : List QE := [(.aload_n 0, 24, []), (.getfield 27, 27, []), (.getfield 67, 30, []), (.iload_n 3, 31, []), (.aaload, 32, []), (.astore 4, 34, []), (.aload_n 0, 35, []), (.aload 4, 37, []), (.aload_n 0, 38, []), (.getfield 15, 41, []), (.iload_n 3, 42, []), (.iaload, 43, []), (.invokevirtual 95, 46, []), (.istore 5, 48, []), (.iconst 0, 49, []), (.istore 6, 51, [])]
def b_X9_reachNeeded_51 : List QE := [(.iload 6, 53, []), (.aload 4, 55, []), (.getfield 89, 58, []), (.if_icmp .ge 27, 61, [(0, 85)])]
def b_X9_reachNeeded_61 : List QE := [(.aload_n 0, 62, []), (.getfield 15, 65, []), (.aload 4, 67, []), (.getfield 92, 70, []), (.iload 6, 72, []), (.iaload, 73, []), (.dup2, 74, []), (.iaload, 75, []), (.iload 5, 77, []), (.ior, 78, []), (.iastore, 79, []), (.iinc 6 1, 82, []), (.goto (-31), 85, [(0, 51)])]
def b_X9_reachNeeded_85 : List QE := [(.iinc 3 (-1), 88, []), (.goto (-69), 91, [(0, 19)])]
def b_X9_reachNeeded_91 : List QE := [(.return_, 92, [])]
def L_X9_reachNeeded : List (Nat × Option (List QE)) := [(0, some b_X9_reachNeeded_0), (19, none), (23, some b_X9_reachNeeded_23), (51, none), (61, some b_X9_reachNeeded_61), (85, some b_X9_reachNeeded_85), (91, some b_X9_reachNeeded_91)]
def s_X9_reachNeeded : Nat → Option (List QE) := q_look L_X9_reachNeeded
theorem s_X9_reachNeeded_0 : s_X9_reachNeeded 0 = some b_X9_reachNeeded_0 := id rfl
theorem s_X9_reachNeeded_19 : s_X9_reachNeeded 19 = none := id rfl
theorem s_X9_reachNeeded_23 : s_X9_reachNeeded 23 = some b_X9_reachNeeded_23 := id rfl
theorem s_X9_reachNeeded_51 : s_X9_reachNeeded 51 = none := id rfl
theorem s_X9_reachNeeded_61 : s_X9_reachNeeded 61 = some b_X9_reachNeeded_61 := id rfl
theorem s_X9_reachNeeded_85 : s_X9_reachNeeded 85 = some b_X9_reachNeeded_85 := id rfl
theorem s_X9_reachNeeded_91 : s_X9_reachNeeded 91 = some b_X9_reachNeeded_91 := id rfl
def u_X9_reachNeeded : QU := ([15, 27, 67, 89, 92], [], [], [], [95], [43], [])
theorem o_X9_reachNeeded : q_skok cX9_reachNeeded 7 u_X9_reachNeeded L_X9_reachNeeded = true := by decide +kernel
theorem o_X9_reachNeeded_19 : q_ok cX9_reachNeeded 7 u_X9_reachNeeded 19 b_X9_reachNeeded_19 = true := by decide +kernel
theorem o_X9_reachNeeded_51 : q_ok cX9_reachNeeded 7 u_X9_reachNeeded 51 b_X9_reachNeeded_51 = true := by decide +kernel
theorem k_X9_reachNeeded : q_chk RX9 fl_X9 ld_X9 u_X9_reachNeeded = true := by decide +kernel
def b_X9_across_0 : List QE := [(.aload_n 1, 1, []), (.invokevirtual 99, 4, []), (.ifCond .eq 19, 7, [(0, 23)])]
def b_X9_across_7 : List QE := [(.iload_n 2, 8, []), (.ifCond .ne 7, 11, [(0, 15)])]
def b_X9_across_11 : List QE := [(.iconst 0, 12, []), (.goto 10, 15, [(0, 22)])]
def b_X9_across_15 : List QE := [(.aload_n 0, 16, []), (.getfield 23, 19, []), (.getfield 103, 22, [])]
def b_X9_across_22 : List QE := [(.ireturn, 23, [])]
def b_X9_across_23 : List QE := [(.aload_n 1, 24, []), (.getfield 73, 27, []), (.bipush 10, 29, []), (.if_icmp .ne 14, 32, [(0, 43)])]
def b_X9_across_32 : List QE := [(.aload_n 0, 33, []), (.getfield 23, 36, []), (.iload_n 2, 37, []), (.invokevirtual 108, 40, []), (.goto 4, 43, [(0, 44)])]
def b_X9_across_43 : List QE := [(.iload_n 2, 44, [])]
def b_X9_across_44 : List QE := [(.ireturn, 45, [])]
def L_X9_across : List (Nat × Option (List QE)) := [(0, some b_X9_across_0), (7, some b_X9_across_7), (11, some b_X9_across_11), (15, some b_X9_across_15), (22, some b_X9_across_22), (23, some b_X9_across_23), (32, some b_X9_across_32), (43, some b_X9_across_43), (44, some b_X9_across_44)]
def s_X9_across : Nat → Option (List QE) := q_look L_X9_across
theorem s_X9_across_0 : s_X9_across 0 = some b_X9_across_0 := id rfl
theorem s_X9_across_7 : s_X9_across 7 = some b_X9_across_7 := id rfl
theorem s_X9_across_11 : s_X9_across 11 = some b_X9_across_11 := id rfl
theorem s_X9_across_15 : s_X9_across 15 = some b_X9_across_15 := id rfl
theorem s_X9_across_22 : s_X9_across 22 = some b_X9_across_22 := id rfl
theorem s_X9_across_23 : s_X9_across 23 = some b_X9_across_23 := id rfl
theorem s_X9_across_32 : s_X9_across 32 = some b_X9_across_32 := id rfl
theorem s_X9_across_43 : s_X9_across 43 = some b_X9_across_43 := id rfl
theorem s_X9_across_44 : s_X9_across 44 = some b_X9_across_44 := id rfl
def u_X9_across : QU := ([23, 103, 73], [], [], [], [99, 108], [], [])
theorem o_X9_across : q_skok cX9_across 3 u_X9_across L_X9_across = true := by decide +kernel
theorem k_X9_across : q_chk RX9 fl_X9 ld_X9 u_X9_across = true := by decide +kernel
def b_X9_makeTiles_0 : List QE := [(.iload_n 2, 1, []), (.ifCond .ne 4, 4, [(0, 5)])]
def b_X9_makeTiles_4 : List QE := [(.return_, 5, [])]
def b_X9_makeTiles_5 : List QE := [(.aload_n 0, 6, []), (.getfield 27, 9, []), (.getfield 67, 12, []), (.iload_n 1, 13, []), (.aaload, 14, []), (.astore_n 3, 15, []), (.aload_n 3, 16, []), (.invokevirtual 99, 19, []), (.ifCond .eq 29, 22, [(0, 48)])]
def b_X9_makeTiles_22 : List QE := [(.aload_n 0, 23, []), (.getfield 9, 26, []), (.iload_n 1, 27, []), (.iaload, 28, []), (.ifCond .ne 61, 31, [(0, 89)])]
def b_X9_makeTiles_31 : List QE := [(.aload_n 0, 32, []), (.getfield 36, 35, []), (.aload_n 3, 36, []), (.aload_n 0, 37, []), (.getfield 20, 40, []), (.iload_n 1, 41, []), (.aaload, 42, []), (.invokevirtual 111, 45, []), (.goto 44, 48, [(0, 89)])]
def b_X9_makeTiles_48 : List QE := [(.iconst 0, 49, []), (.istore 4, 51, [])]
def b_X9_makeTiles_51 : List QE := [(.iload 4, 53, []), (.bipush 9, 55, []), (.if_icmp .ge 34, 58, [(0, 89)])]
def b_X9_makeTiles_58 : List QE := [(.iload_n 2, 59, []), (.iload 4, 61, []), (.ishr, 62, []), (.iconst 1, 63, []), (.iand, 64, []), (.ifCond .eq 19, 67, [(0, 83)])]
def b_X9_makeTiles_67 : List QE := [(.aload_n 0, 68, []), (.getfield 36, 71, []), (.aload_n 3, 72, []), (.iload 4, 74, []), (.aload_n 0, 75, []), (.getfield 20, 78, []), (.iload_n 1, 79, []), (.aaload, 80, []), (.invokevirtual 115, 83, [])]
def b_X9_makeTiles_83 : List QE := [(.iinc 4 1, 86, []), (.goto (-35), 89, [(0, 51)])]
def b_X9_makeTiles_89 : List QE := [(.aload_n 0, 90, []), (.getfield 9, 93, []), (.iload_n 1, 94, []), (.dup2, 95, []), (.iaload, 96, []), (.iload_n 2, 97, []), (.ior, 98, []), (.iastore, 99, []), (.aload_n 0, 100, []), (.dup, 101, []), (.getfield 119, 104, []), (.iload_n 2, 105, []), (.invokestatic 50, 108, []), (.iadd, 109, []), (.putfield 119, 112, []), (.return_, 113, [])]
def L_X9_makeTiles : List (Nat × Option (List QE)) := [(0, some b_X9_makeTiles_0), (4, some b_X9_makeTiles_4), (5, some b_X9_makeTiles_5), (22, some b_X9_makeTiles_22), (31, some b_X9_makeTiles_31), (48, some b_X9_makeTiles_48), (51, none), (58, some b_X9_makeTiles_58), (67, some b_X9_makeTiles_67), (83, some b_X9_makeTiles_83), (89, some b_X9_makeTiles_89)]
def s_X9_makeTiles : Nat → Option (List QE) := q_look L_X9_makeTiles
theorem s_X9_makeTiles_0 : s_X9_makeTiles 0 = some b_X9_makeTiles_0 := id rfl
theorem s_X9_makeTiles_4 : s_X9_makeTiles 4 = some b_X9_makeTiles_4 := id rfl
theorem s_X9_makeTiles_5 : s_X9_makeTiles 5 = some b_X9_makeTiles_5 := id rfl
theorem s_X9_makeTiles_22 : s_X9_makeTiles 22 = some b_X9_makeTiles_22 := id rfl
theorem s_X9_makeTiles_31 : s_X9_makeTiles 31 = some b_X9_makeTiles_31 := id rfl
theorem s_X9_makeTiles_48 : s_X9_makeTiles 48 = some b_X9_makeTiles_48 := id rfl
theorem s_X9_makeTiles_51 : s_X9_makeTiles 51 = none := id rfl
theorem s_X9_makeTiles_58 : s_X9_makeTiles 58 = some b_X9_makeTiles_58 := id rfl
theorem s_X9_makeTiles_67 : s_X9_makeTiles 67 = some b_X9_makeTiles_67 := id rfl
theorem s_X9_makeTiles_83 : s_X9_makeTiles 83 = some b_X9_makeTiles_83 := id rfl
theorem s_X9_makeTiles_89 : s_X9_makeTiles 89 = some b_X9_makeTiles_89 := id rfl
def u_X9_makeTiles : QU := ([27, 67, 9, 36, 20, 119], [119], [], [], [99, 111, 115], [50], [])
theorem o_X9_makeTiles : q_skok cX9_makeTiles 5 u_X9_makeTiles L_X9_makeTiles = true := by decide +kernel
theorem o_X9_makeTiles_51 : q_ok cX9_makeTiles 5 u_X9_makeTiles 51 b_X9_makeTiles_51 = true := by decide +kernel
theorem k_X9_makeTiles : q_chk RX9 fl_X9 ld_X9 u_X9_makeTiles = true := by decide +kernel
def b_X10_size_0 : List QE := [(.iload_n 1, 1, []), (.invokestatic 65, 4, []), (.ifCond .eq 10, 7, [(0, 14)])]
def b_X10_size_7 : List QE := [(.iload_n 2, 8, []), (.invokestatic 65, 11, []), (.ifCond .ne 9, 14, [(0, 20)])]
def b_X10_size_14 : List QE := [(.aload_n 0, 15, []), (.iconst (-1), 16, []), (.invokevirtual 69, 19, []), (.ireturn, 20, [])]
def b_X10_size_20 : List QE := [(.aload_n 0, 21, []), (.getfield 12, 24, []), (.iload_n 1, 25, []), (.iload_n 2, 26, []), (.invokevirtual 73, 29, []), (.aload_n 0, 30, []), (.getfield 19, 33, []), (.invokevirtual 77, 36, []), (.aload_n 0, 37, []), (.getfield 54, 40, []), (.invokevirtual 80, 43, []), (.aload_n 0, 44, []), (.iconst 0, 45, []), (.invokevirtual 81, 48, []), (.ireturn, 49, [])]
def L_X10_size : List (Nat × Option (List QE)) := [(0, some b_X10_size_0), (7, some b_X10_size_7), (14, some b_X10_size_14), (20, some b_X10_size_20)]
def s_X10_size : Nat → Option (List QE) := q_look L_X10_size
theorem s_X10_size_0 : s_X10_size 0 = some b_X10_size_0 := id rfl
theorem s_X10_size_7 : s_X10_size 7 = some b_X10_size_7 := id rfl
theorem s_X10_size_14 : s_X10_size 14 = some b_X10_size_14 := id rfl
theorem s_X10_size_20 : s_X10_size 20 = some b_X10_size_20 := id rfl
def u_X10_size : QU := ([12, 19, 54], [], [], [], [69, 73, 77, 80, 81], [65], [])
theorem o_X10_size : q_skok cX10_size 3 u_X10_size L_X10_size = true := by decide +kernel
theorem k_X10_size : q_chk RX10 fl_X10 ld_X10 u_X10_size = true := by decide +kernel
def b_X10_tell_0 : List QE := [(.iload_n 1, 1, []), (.invokestatic 84, 4, []), (.ifCond .eq 11, 7, [(0, 15)])]
def b_X10_tell_7 : List QE := [(.iload 4, 9, []), (.invokestatic 87, 12, []), (.ifCond .ne 9, 15, [(0, 21)])]
def b_X10_tell_15 : List QE := [(.aload_n 0, 16, []), (.iconst (-1), 17, []), (.invokevirtual 69, 20, []), (.ireturn, 21, [])]
def b_X10_tell_21 : List QE := [(.aload_n 0, 22, []), (.getfield 12, 25, []), (.iload_n 2, 26, []), (.iload_n 3, 27, []), (.invokevirtual 90, 30, []), (.ifCond .ne 10, 33, [(0, 40)])]
def b_X10_tell_33 : List QE := [(.aload_n 0, 34, []), (.bipush (-2), 36, []), (.invokevirtual 69, 39, []), (.ireturn, 40, [])]
def b_X10_tell_40 : List QE := [(.aload_n 0, 41, []), (.iload_n 1, 42, []), (.iload_n 2, 43, []), (.iload_n 3, 44, []), (.invokestatic 94, 47, []), (.iload 4, 49, []), (.invokevirtual 98, 52, []), (.aload_n 0, 53, []), (.iconst 0, 54, []), (.invokevirtual 81, 57, []), (.ireturn, 58, [])]
def L_X10_tell : List (Nat × Option (List QE)) := [(0, some b_X10_tell_0), (7, some b_X10_tell_7), (15, some b_X10_tell_15), (21, some b_X10_tell_21), (33, some b_X10_tell_33), (40, some b_X10_tell_40)]
def s_X10_tell : Nat → Option (List QE) := q_look L_X10_tell
theorem s_X10_tell_0 : s_X10_tell 0 = some b_X10_tell_0 := id rfl
theorem s_X10_tell_7 : s_X10_tell 7 = some b_X10_tell_7 := id rfl
theorem s_X10_tell_15 : s_X10_tell 15 = some b_X10_tell_15 := id rfl
theorem s_X10_tell_21 : s_X10_tell 21 = some b_X10_tell_21 := id rfl
theorem s_X10_tell_33 : s_X10_tell 33 = some b_X10_tell_33 := id rfl
theorem s_X10_tell_40 : s_X10_tell 40 = some b_X10_tell_40 := id rfl
def u_X10_tell : QU := ([12], [], [], [], [69, 90, 98, 81], [84, 87, 94], [])
theorem o_X10_tell : q_skok cX10_tell 5 u_X10_tell L_X10_tell = true := by decide +kernel
theorem k_X10_tell : q_chk RX10 fl_X10 ld_X10 u_X10_tell = true := by decide +kernel
def b_X10_told_0 : List QE := [(.iload_n 1, 1, []), (.invokestatic 84, 4, []), (.ifCond .eq 15, 7, [(0, 19)])]
def b_X10_told_7 : List QE := [(.aload_n 0, 8, []), (.getfield 12, 11, []), (.iload_n 2, 12, []), (.iload_n 3, 13, []), (.invokevirtual 90, 16, []), (.ifCond .ne 6, 19, [(0, 22)])]
def b_X10_told_19 : List QE := [(.ldc 102, 21, []), (.ireturn, 22, [])]
def b_X10_told_22 : List QE := [(.aload_n 0, 23, []), (.getfield 19, 26, []), (.getfield 103, 29, []), (.iload_n 1, 30, []), (.aaload, 31, []), (.iload_n 2, 32, []), (.iload_n 3, 33, []), (.invokestatic 94, 36, []), (.iaload, 37, []), (.ireturn, 38, [])]
def L_X10_told : List (Nat × Option (List QE)) := [(0, some b_X10_told_0), (7, some b_X10_told_7), (19, some b_X10_told_19), (22, some b_X10_told_22)]
def s_X10_told : Nat → Option (List QE) := q_look L_X10_told
theorem s_X10_told_0 : s_X10_told 0 = some b_X10_told_0 := id rfl
theorem s_X10_told_7 : s_X10_told 7 = some b_X10_told_7 := id rfl
theorem s_X10_told_19 : s_X10_told 19 = some b_X10_told_19 := id rfl
theorem s_X10_told_22 : s_X10_told 22 = some b_X10_told_22 := id rfl
def u_X10_told : QU := ([12, 19, 103], [], [102], [], [90], [84, 94], [])
theorem o_X10_told : q_skok cX10_told 4 u_X10_told L_X10_told = true := by decide +kernel
theorem k_X10_told : q_chk RX10 fl_X10 ld_X10 u_X10_told = true := by decide +kernel
def b_X10_feed_0 : List QE := [(.aload_n 0, 1, []), (.getfield 26, 4, []), (.bipush 20, 6, []), (.invokevirtual 107, 9, []), (.ifCond .ne 5, 12, [(0, 14)])]
def b_X10_feed_12 : List QE := [(.iconst (-1), 13, []), (.ireturn, 14, [])]
def b_X10_feed_14 : List QE := [(.aload_n 0, 15, []), (.getfield 26, 18, []), (.iload_n 1, 19, []), (.invokevirtual 110, 22, []), (.aload_n 0, 23, []), (.getfield 26, 26, []), (.iload_n 2, 27, []), (.invokevirtual 110, 30, []), (.aload_n 0, 31, []), (.getfield 26, 34, []), (.iload_n 3, 35, []), (.invokevirtual 110, 38, []), (.aload_n 0, 39, []), (.getfield 26, 42, []), (.iload 4, 44, []), (.invokevirtual 110, 47, []), (.aload_n 0, 48, []), (.getfield 26, 51, []), (.iload 5, 53, []), (.invokevirtual 110, 56, []), (.aload_n 0, 57, []), (.getfield 26, 60, []), (.getfield 114, 63, []), (.ireturn, 64, [])]
def L_X10_feed : List (Nat × Option (List QE)) := [(0, some b_X10_feed_0), (12, some b_X10_feed_12), (14, some b_X10_feed_14)]
def s_X10_feed : Nat → Option (List QE) := q_look L_X10_feed
theorem s_X10_feed_0 : s_X10_feed 0 = some b_X10_feed_0 := id rfl
theorem s_X10_feed_12 : s_X10_feed 12 = some b_X10_feed_12 := id rfl
theorem s_X10_feed_14 : s_X10_feed 14 = some b_X10_feed_14 := id rfl
def u_X10_feed : QU := ([26, 114], [], [], [], [107, 110], [], [])
theorem o_X10_feed : q_skok cX10_feed 6 u_X10_feed L_X10_feed = true := by decide +kernel
theorem k_X10_feed : q_chk RX10 fl_X10 ld_X10 u_X10_feed = true := by decide +kernel
def b_X10_end_0 : List QE := [(.iload_n 1, 1, []), (.ifCond .lt 14, 4, [(0, 15)])]
def b_X10_end_4 : List QE := [(.iload_n 1, 5, []), (.aload_n 0, 6, []), (.getfield 26, 9, []), (.getfield 114, 12, []), (.if_icmp .le 5, 15, [(0, 17)])]
def b_X10_end_15 : List QE := [(.iconst (-1), 16, []), (.ireturn, 17, [])]
def b_X10_end_17 : List QE := [(.aload_n 0, 18, []), (.getfield 26, 21, []), (.iload_n 1, 22, []), (.putfield 114, 25, []), (.iload_n 1, 26, []), (.ireturn, 27, [])]
def L_X10_end : List (Nat × Option (List QE)) := [(0, some b_X10_end_0), (4, some b_X10_end_4), (15, some b_X10_end_15), (17, some b_X10_end_17)]
def s_X10_end : Nat → Option (List QE) := q_look L_X10_end
theorem s_X10_end_0 : s_X10_end 0 = some b_X10_end_0 := id rfl
theorem s_X10_end_4 : s_X10_end 4 = some b_X10_end_4 := id rfl
theorem s_X10_end_15 : s_X10_end 15 = some b_X10_end_15 := id rfl
theorem s_X10_end_17 : s_X10_end 17 = some b_X10_end_17 := id rfl
def u_X10_end : QU := ([26, 114], [114], [], [], [], [], [])
theorem o_X10_end : q_skok cX10_end 2 u_X10_end L_X10_end = true := by decide +kernel
theorem k_X10_end : q_chk RX10 fl_X10 ld_X10 u_X10_end = true := by decide +kernel
def b_X10_boards_0 : List QE := [(.aload_n 0, 1, []), (.aload_n 0, 2, []), (.getfield 45, 5, []), (.aload_n 0, 6, []), (.getfield 37, 9, []), (.invokevirtual 117, 12, []), (.putfield 58, 15, []), (.aload_n 0, 16, []), (.getfield 26, 19, []), (.iconst 0, 20, []), (.putfield 114, 23, []), (.aload_n 0, 24, []), (.getfield 58, 27, []), (.iconst (-1), 28, []), (.if_icmp .eq 10, 31, [(0, 38)])]
def b_X10_boards_31 : List QE := [(.aload_n 0, 32, []), (.bipush (-6), 34, []), (.invokevirtual 69, 37, []), (.ireturn, 38, [])]
def b_X10_boards_38 : List QE := [(.aload_n 0, 39, []), (.getfield 33, 42, []), (.astore_n 1, 43, []), (.aload_n 0, 44, []), (.aload_n 0, 45, []), (.getfield 37, 48, []), (.putfield 33, 51, []), (.aload_n 0, 52, []), (.aload_n 1, 53, []), (.putfield 37, 56, []), (.aload_n 0, 57, []), (.getfield 54, 60, []), (.aload_n 0, 61, []), (.getfield 33, 64, []), (.invokevirtual 121, 67, []), (.aload_n 0, 68, []), (.aload_n 0, 69, []), (.getfield 33, 72, []), (.getfield 125, 75, []), (.invokevirtual 81, 78, []), (.ireturn, 79, [])]
def L_X10_boards : List (Nat × Option (List QE)) := [(0, some b_X10_boards_0), (31, some b_X10_boards_31), (38, some b_X10_boards_38)]
def s_X10_boards : Nat → Option (List QE) := q_look L_X10_boards
theorem s_X10_boards_0 : s_X10_boards 0 = some b_X10_boards_0 := id rfl
theorem s_X10_boards_31 : s_X10_boards 31 = some b_X10_boards_31 := id rfl
theorem s_X10_boards_38 : s_X10_boards 38 = some b_X10_boards_38 := id rfl
def u_X10_boards : QU := ([45, 37, 58, 26, 114, 33, 54, 125], [58, 114, 33, 37], [], [], [117, 69, 121, 81], [], [])
theorem o_X10_boards : q_skok cX10_boards 2 u_X10_boards L_X10_boards = true := by decide +kernel
theorem k_X10_boards : q_chk RX10 fl_X10 ld_X10 u_X10_boards = true := by decide +kernel
def b_X10_fault_0 : List QE := [(.aload_n 0, 1, []), (.getfield 58, 4, []), (.ireturn, 5, [])]
def L_X10_fault : List (Nat × Option (List QE)) := [(0, some b_X10_fault_0)]
def s_X10_fault : Nat → Option (List QE) := q_look L_X10_fault
theorem s_X10_fault_0 : s_X10_fault 0 = some b_X10_fault_0 := id rfl
def u_X10_fault : QU := ([58], [], [], [], [], [], [])
theorem o_X10_fault : q_skok cX10_fault 1 u_X10_fault L_X10_fault = true := by decide +kernel
theorem k_X10_fault : q_chk RX10 fl_X10 ld_X10 u_X10_fault = true := by decide +kernel
def b_X10_cell_0 : List QE := [(.aload_n 0, 1, []), (.getfield 33, 4, []), (.iload_n 1, 5, []), (.invokevirtual 126, 8, []), (.ifCond .eq 15, 11, [(0, 23)])]
def b_X10_cell_11 : List QE := [(.aload_n 0, 12, []), (.getfield 12, 15, []), (.iload_n 2, 16, []), (.iload_n 3, 17, []), (.invokevirtual 90, 20, []), (.ifCond .ne 6, 23, [(0, 26)])]
def b_X10_cell_23 : List QE := [(.ldc 102, 25, []), (.ireturn, 26, [])]
def b_X10_cell_26 : List QE := [(.aload_n 0, 27, []), (.getfield 54, 30, []), (.iload_n 1, 31, []), (.iload_n 2, 32, []), (.iload_n 3, 33, []), (.invokestatic 129, 36, []), (.invokevirtual 132, 39, []), (.aload_n 0, 40, []), (.getfield 54, 43, []), (.getfield 135, 46, []), (.iload_n 1, 47, []), (.aaload, 48, []), (.iload_n 2, 49, []), (.iload_n 3, 50, []), (.invokestatic 94, 53, []), (.iaload, 54, []), (.ireturn, 55, [])]
def L_X10_cell : List (Nat × Option (List QE)) := [(0, some b_X10_cell_0), (11, some b_X10_cell_11), (23, some b_X10_cell_23), (26, some b_X10_cell_26)]
def s_X10_cell : Nat → Option (List QE) := q_look L_X10_cell
theorem s_X10_cell_0 : s_X10_cell 0 = some b_X10_cell_0 := id rfl
theorem s_X10_cell_11 : s_X10_cell 11 = some b_X10_cell_11 := id rfl
theorem s_X10_cell_23 : s_X10_cell 23 = some b_X10_cell_23 := id rfl
theorem s_X10_cell_26 : s_X10_cell 26 = some b_X10_cell_26 := id rfl
def u_X10_cell : QU := ([33, 12, 54, 135], [], [102], [], [126, 90, 132], [129, 94], [])
theorem o_X10_cell : q_skok cX10_cell 4 u_X10_cell L_X10_cell = true := by decide +kernel
theorem k_X10_cell : q_chk RX10 fl_X10 ld_X10 u_X10_cell = true := by decide +kernel
def b_X10_fresh_0 : List QE := [(.aload_n 0, 1, []), (.getfield 33, 4, []), (.iload_n 1, 5, []), (.invokevirtual 126, 8, []), (.ifCond .eq 14, 11, [(0, 22)])]
def b_X10_fresh_11 : List QE := [(.aload_n 0, 12, []), (.getfield 12, 15, []), (.iload_n 2, 16, []), (.invokevirtual 138, 19, []), (.ifCond .ne 5, 22, [(0, 24)])]
def b_X10_fresh_22 : List QE := [(.iconst (-1), 23, []), (.ireturn, 24, [])]
def b_X10_fresh_24 : List QE := [(.aload_n 0, 25, []), (.getfield 54, 28, []), (.iload_n 1, 29, []), (.iload_n 2, 30, []), (.invokevirtual 141, 33, []), (.ifCond .eq 7, 36, [(0, 40)])]
def b_X10_fresh_36 : List QE := [(.iconst 1, 37, []), (.goto 4, 40, [(0, 41)])]
def b_X10_fresh_40 : List QE := [(.iconst 0, 41, [])]
def b_X10_fresh_41 : List QE := [(.ireturn, 42, [])]
def L_X10_fresh : List (Nat × Option (List QE)) := [(0, some b_X10_fresh_0), (11, some b_X10_fresh_11), (22, some b_X10_fresh_22), (24, some b_X10_fresh_24), (36, some b_X10_fresh_36), (40, some b_X10_fresh_40), (41, some b_X10_fresh_41)]
def s_X10_fresh : Nat → Option (List QE) := q_look L_X10_fresh
theorem s_X10_fresh_0 : s_X10_fresh 0 = some b_X10_fresh_0 := id rfl
theorem s_X10_fresh_11 : s_X10_fresh 11 = some b_X10_fresh_11 := id rfl
theorem s_X10_fresh_22 : s_X10_fresh 22 = some b_X10_fresh_22 := id rfl
theorem s_X10_fresh_24 : s_X10_fresh 24 = some b_X10_fresh_24 := id rfl
theorem s_X10_fresh_36 : s_X10_fresh 36 = some b_X10_fresh_36 := id rfl
theorem s_X10_fresh_40 : s_X10_fresh 40 = some b_X10_fresh_40 := id rfl
theorem s_X10_fresh_41 : s_X10_fresh 41 = some b_X10_fresh_41 := id rfl
def u_X10_fresh : QU := ([33, 12, 54], [], [], [], [126, 138, 141], [], [])
theorem o_X10_fresh : q_skok cX10_fresh 3 u_X10_fresh L_X10_fresh = true := by decide +kernel
theorem k_X10_fresh : q_chk RX10 fl_X10 ld_X10 u_X10_fresh = true := by decide +kernel
def b_X10_from_0 : List QE := [(.aload_n 0, 1, []), (.getfield 33, 4, []), (.iload_n 1, 5, []), (.invokevirtual 126, 8, []), (.ifCond .eq 21, 11, [(0, 29)])]
def b_X10_from_11 : List QE := [(.aload_n 0, 12, []), (.getfield 12, 15, []), (.iload_n 2, 16, []), (.invokevirtual 138, 19, []), (.ifCond .eq 10, 22, [(0, 29)])]
def b_X10_from_22 : List QE := [(.iload_n 3, 23, []), (.invokestatic 84, 26, []), (.ifCond .ne 5, 29, [(0, 31)])]
def b_X10_from_29 : List QE := [(.iconst (-1), 30, []), (.ireturn, 31, [])]
def b_X10_from_31 : List QE := [(.aload_n 0, 32, []), (.getfield 54, 35, []), (.iload_n 1, 36, []), (.iload_n 2, 37, []), (.iload_n 3, 38, []), (.invokevirtual 144, 41, []), (.ireturn, 42, [])]
def L_X10_from : List (Nat × Option (List QE)) := [(0, some b_X10_from_0), (11, some b_X10_from_11), (22, some b_X10_from_22), (29, some b_X10_from_29), (31, some b_X10_from_31)]
def s_X10_from : Nat → Option (List QE) := q_look L_X10_from
theorem s_X10_from_0 : s_X10_from 0 = some b_X10_from_0 := id rfl
theorem s_X10_from_11 : s_X10_from 11 = some b_X10_from_11 := id rfl
theorem s_X10_from_22 : s_X10_from 22 = some b_X10_from_22 := id rfl
theorem s_X10_from_29 : s_X10_from 29 = some b_X10_from_29 := id rfl
theorem s_X10_from_31 : s_X10_from 31 = some b_X10_from_31 := id rfl
def u_X10_from : QU := ([33, 12, 54], [], [], [], [126, 138, 144], [84], [])
theorem o_X10_from : q_skok cX10_from 4 u_X10_from L_X10_from = true := by decide +kernel
theorem k_X10_from : q_chk RX10 fl_X10 ld_X10 u_X10_from = true := by decide +kernel
def b_X10_made_0 : List QE := [(.aload_n 0, 1, []), (.getfield 54, 4, []), (.getfield 148, 7, []), (.ireturn, 8, [])]
def L_X10_made : List (Nat × Option (List QE)) := [(0, some b_X10_made_0)]
def s_X10_made : Nat → Option (List QE) := q_look L_X10_made
theorem s_X10_made_0 : s_X10_made 0 = some b_X10_made_0 := id rfl
def u_X10_made : QU := ([54, 148], [], [], [], [], [], [])
theorem o_X10_made : q_skok cX10_made 1 u_X10_made L_X10_made = true := by decide +kernel
theorem k_X10_made : q_chk RX10 fl_X10 ld_X10 u_X10_made = true := by decide +kernel
def b_X10_image_0 : List QE := [(.iload_n 1, 1, []), (.invokestatic 151, 4, []), (.ifCond .ne 9, 7, [(0, 13)])]
def b_X10_image_7 : List QE := [(.aload_n 0, 8, []), (.iconst (-1), 9, []), (.invokevirtual 69, 12, []), (.ireturn, 13, [])]
def b_X10_image_13 : List QE := [(.aload_n 0, 14, []), (.getfield 19, 17, []), (.iload_n 1, 18, []), (.invokevirtual 154, 21, []), (.aload_n 0, 22, []), (.iconst 0, 23, []), (.invokevirtual 81, 26, []), (.ireturn, 27, [])]
def L_X10_image : List (Nat × Option (List QE)) := [(0, some b_X10_image_0), (7, some b_X10_image_7), (13, some b_X10_image_13)]
def s_X10_image : Nat → Option (List QE) := q_look L_X10_image
theorem s_X10_image_0 : s_X10_image 0 = some b_X10_image_0 := id rfl
theorem s_X10_image_7 : s_X10_image 7 = some b_X10_image_7 := id rfl
theorem s_X10_image_13 : s_X10_image 13 = some b_X10_image_13 := id rfl
def u_X10_image : QU := ([19], [], [], [], [69, 154, 81], [151], [])
theorem o_X10_image : q_skok cX10_image 2 u_X10_image L_X10_image = true := by decide +kernel
theorem k_X10_image : q_chk RX10 fl_X10 ld_X10 u_X10_image = true := by decide +kernel
def b_X10_back_0 : List QE := [(.iload_n 1, 1, []), (.invokestatic 151, 4, []), (.ifCond .ne 9, 7, [(0, 13)])]
def b_X10_back_7 : List QE := [(.aload_n 0, 8, []), (.iconst (-1), 9, []), (.invokevirtual 69, 12, []), (.ireturn, 13, [])]
def b_X10_back_13 : List QE := [(.aload_n 0, 14, []), (.getfield 19, 17, []), (.getfield 157, 20, []), (.iload_n 1, 21, []), (.baload, 22, []), (.ifCond .ne 10, 25, [(0, 32)])]
def b_X10_back_25 : List QE := [(.aload_n 0, 26, []), (.bipush (-6), 28, []), (.invokevirtual 69, 31, []), (.ireturn, 32, [])]
def b_X10_back_32 : List QE := [(.iconst 0, 33, []), (.istore_n 2, 34, []), (.iconst 0, 35, []), (.istore_n 3, 36, [])]
def b_X10_back_36 : List QE := [(.iload_n 3, 37, []), (.iconst 4, 38, []), (.if_icmp .ge 18, 41, [(0, 56)])]
def b_X10_back_41 : List QE := [(.iload_n 2, 42, []), (.aload_n 0, 43, []), (.iload_n 1, 44, []), (.iload_n 3, 45, []), (.invokevirtual 161, 48, []), (.iadd, 49, []), (.istore_n 2, 50, []), (.iinc 3 1, 53, []), (.goto (-17), 56, [(0, 36)])]
def b_X10_back_56 : List QE := [(.aload_n 0, 57, []), (.iload_n 2, 58, []), (.invokevirtual 81, 61, []), (.ireturn, 62, [])]
def L_X10_back : List (Nat × Option (List QE)) := [(0, some b_X10_back_0), (7, some b_X10_back_7), (13, some b_X10_back_13), (25, some b_X10_back_25), (32, some b_X10_back_32), (36, none), (41, some b_X10_back_41), (56, some b_X10_back_56)]
def s_X10_back : Nat → Option (List QE) := q_look L_X10_back
theorem s_X10_back_0 : s_X10_back 0 = some b_X10_back_0 := id rfl
theorem s_X10_back_7 : s_X10_back 7 = some b_X10_back_7 := id rfl
theorem s_X10_back_13 : s_X10_back 13 = some b_X10_back_13 := id rfl
theorem s_X10_back_25 : s_X10_back 25 = some b_X10_back_25 := id rfl
theorem s_X10_back_32 : s_X10_back 32 = some b_X10_back_32 := id rfl
theorem s_X10_back_36 : s_X10_back 36 = none := id rfl
theorem s_X10_back_41 : s_X10_back 41 = some b_X10_back_41 := id rfl
theorem s_X10_back_56 : s_X10_back 56 = some b_X10_back_56 := id rfl
def u_X10_back : QU := ([19, 157], [], [], [], [69, 161, 81], [151], [])
theorem o_X10_back : q_skok cX10_back 4 u_X10_back L_X10_back = true := by decide +kernel
theorem o_X10_back_36 : q_ok cX10_back 4 u_X10_back 36 b_X10_back_36 = true := by decide +kernel
theorem k_X10_back : q_chk RX10 fl_X10 ld_X10 u_X10_back = true := by decide +kernel
def b_X10_count_0 : List QE := [(.iload_n 1, 1, []), (.tableswitch 90 0 5 #[39, 47, 55, 63, 74, 82], 40, [(0, 40), (1, 48), (2, 56), (3, 64), (4, 75), (5, 83), (0, 91)])]
def b_X10_count_40 : List QE := [(.aload_n 0, 41, []), (.getfield 12, 44, []), (.getfield 164, 47, []), (.ireturn, 48, [])]
def b_X10_count_48 : List QE := [(.aload_n 0, 49, []), (.getfield 12, 52, []), (.getfield 167, 55, []), (.ireturn, 56, [])]
def b_X10_count_56 : List QE := [(.aload_n 0, 57, []), (.getfield 33, 60, []), (.getfield 125, 63, []), (.ireturn, 64, [])]
def b_X10_count_64 : List QE := [(.aload_n 0, 65, []), (.getfield 12, 68, []), (.getfield 170, 71, []), (.invokestatic 173, 74, []), (.ireturn, 75, [])]
def b_X10_count_75 : List QE := [(.aload_n 0, 76, []), (.getfield 26, 79, []), (.getfield 114, 82, []), (.ireturn, 83, [])]
def b_X10_count_83 : List QE := [(.aload_n 0, 84, []), (.getfield 54, 87, []), (.invokevirtual 178, 90, []), (.ireturn, 91, [])]
def b_X10_count_91 : List QE := [(.iconst (-1), 92, []), (.ireturn, 93, [])]
def L_X10_count : List (Nat × Option (List QE)) := [(0, some b_X10_count_0), (40, some b_X10_count_40), (48, some b_X10_count_48), (56, some b_X10_count_56), (64, some b_X10_count_64), (75, some b_X10_count_75), (83, some b_X10_count_83), (91, some b_X10_count_91)]
def s_X10_count : Nat → Option (List QE) := q_look L_X10_count
theorem s_X10_count_0 : s_X10_count 0 = some b_X10_count_0 := id rfl
theorem s_X10_count_40 : s_X10_count 40 = some b_X10_count_40 := id rfl
theorem s_X10_count_48 : s_X10_count 48 = some b_X10_count_48 := id rfl
theorem s_X10_count_56 : s_X10_count 56 = some b_X10_count_56 := id rfl
theorem s_X10_count_64 : s_X10_count 64 = some b_X10_count_64 := id rfl
theorem s_X10_count_75 : s_X10_count 75 = some b_X10_count_75 := id rfl
theorem s_X10_count_83 : s_X10_count 83 = some b_X10_count_83 := id rfl
theorem s_X10_count_91 : s_X10_count 91 = some b_X10_count_91 := id rfl
def u_X10_count : QU := ([12, 164, 167, 33, 125, 170, 26, 114, 54], [], [], [], [178], [173], [])
theorem o_X10_count : q_skok cX10_count 2 u_X10_count L_X10_count = true := by decide +kernel
theorem k_X10_count : q_chk RX10 fl_X10 ld_X10 u_X10_count = true := by decide +kernel
def b_X10_status_0 : List QE := [(.aload_n 0, 1, []), (.getfield 62, 4, []), (.ireturn, 5, [])]
def L_X10_status : List (Nat × Option (List QE)) := [(0, some b_X10_status_0)]
def s_X10_status : Nat → Option (List QE) := q_look L_X10_status
theorem s_X10_status_0 : s_X10_status 0 = some b_X10_status_0 := id rfl
def u_X10_status : QU := ([62], [], [], [], [], [], [])
theorem o_X10_status : q_skok cX10_status 1 u_X10_status L_X10_status = true := by decide +kernel
theorem k_X10_status : q_chk RX10 fl_X10 ld_X10 u_X10_status = true := by decide +kernel
def b_X10_refuse_0 : List QE := [(.aload_n 0, 1, []), (.iload_n 1, 2, []), (.putfield 62, 5, []), (.iload_n 1, 6, []), (.ireturn, 7, [])]
def L_X10_refuse : List (Nat × Option (List QE)) := [(0, some b_X10_refuse_0)]
def s_X10_refuse : Nat → Option (List QE) := q_look L_X10_refuse
theorem s_X10_refuse_0 : s_X10_refuse 0 = some b_X10_refuse_0 := id rfl
def u_X10_refuse : QU := ([62], [62], [], [], [], [], [])
theorem o_X10_refuse : q_skok cX10_refuse 2 u_X10_refuse L_X10_refuse = true := by decide +kernel
theorem k_X10_refuse : q_chk RX10 fl_X10 ld_X10 u_X10_refuse = true := by decide +kernel
def b_X10_accept_0 : List QE := [(.aload_n 0, 1, []), (.iconst 0, 2, []), (.putfield 62, 5, []), (.iload_n 1, 6, []), (.ireturn, 7, [])]
def L_X10_accept : List (Nat × Option (List QE)) := [(0, some b_X10_accept_0)]
def s_X10_accept : Nat → Option (List QE) := q_look L_X10_accept
theorem s_X10_accept_0 : s_X10_accept 0 = some b_X10_accept_0 := id rfl
def u_X10_accept : QU := ([62], [62], [], [], [], [], [])
theorem o_X10_accept : q_skok cX10_accept 2 u_X10_accept L_X10_accept = true := by decide +kernel
theorem k_X10_accept : q_chk RX10 fl_X10 ld_X10 u_X10_accept = true := by decide +kernel
def b_X10_put_0 : List QE := [(.aload_n 0, 1, []), (.getfield 19, 4, []), (.getfield 103, 7, []), (.iload_n 1, 8, []), (.aaload, 9, []), (.iload_n 2, 10, []), (.iload_n 3, 11, []), (.iastore, 12, []), (.aload_n 0, 13, []), (.getfield 54, 16, []), (.iload_n 1, 17, []), (.iload_n 2, 18, []), (.bipush 14, 20, []), (.irem, 21, []), (.iconst 1, 22, []), (.isub, 23, []), (.iload_n 2, 24, []), (.bipush 14, 26, []), (.idiv, 27, []), (.iconst 1, 28, []), (.isub, 29, []), (.invokestatic 129, 32, []), (.invokevirtual 182, 35, []), (.return_, 36, [])]
def L_X10_put : List (Nat × Option (List QE)) := [(0, some b_X10_put_0)]
def s_X10_put : Nat → Option (List QE) := q_look L_X10_put
theorem s_X10_put_0 : s_X10_put 0 = some b_X10_put_0 := id rfl
def u_X10_put : QU := ([19, 103, 54], [], [], [], [182], [129], [])
theorem o_X10_put : q_skok cX10_put 4 u_X10_put L_X10_put = true := by decide +kernel
theorem k_X10_put : q_chk RX10 fl_X10 ld_X10 u_X10_put = true := by decide +kernel
def b_X10_bringBack_0 : List QE := [(.iconst 0, 1, []), (.istore_n 3, 2, []), (.bipush 15, 4, []), (.istore 4, 6, [])]
def b_X10_bringBack_6 : List QE := [(.iload 4, 8, []), (.sipush 180, 11, []), (.if_icmp .gt 58, 14, [(0, 69)])]
def b_X10_bringBack_14 : List QE := [(.aload_n 0, 15, []), (.getfield 19, 18, []), (.getfield 185, 21, []), (.iload_n 1, 22, []), (.aaload, 23, []), (.iload_n 2, 24, []), (.sipush 196, 27, []), (.imul, 28, []), (.iload 4, 30, []), (.iadd, 31, []), (.iaload, 32, []), (.istore 5, 34, []), (.iload 5, 36, []), (.aload_n 0, 37, []), (.getfield 19, 40, []), (.getfield 103, 43, []), (.iload_n 2, 44, []), (.aaload, 45, []), (.iload 4, 47, []), (.iaload, 48, []), (.if_icmp .eq 15, 51, [(0, 63)])]
def b_X10_bringBack_51 : List QE := [(.aload_n 0, 52, []), (.iload_n 2, 53, []), (.iload 4, 55, []), (.iload 5, 57, []), (.invokevirtual 98, 60, []), (.iinc 3 1, 63, [])]
def b_X10_bringBack_63 : List QE := [(.iinc 4 1, 66, []), (.goto (-60), 69, [(0, 6)])]
def b_X10_bringBack_69 : List QE := [(.iload_n 3, 70, []), (.ireturn, 71, [])]
def L_X10_bringBack : List (Nat × Option (List QE)) := [(0, some b_X10_bringBack_0), (6, none), (14, some b_X10_bringBack_14), (51, some b_X10_bringBack_51), (63, some b_X10_bringBack_63), (69, some b_X10_bringBack_69)]
def s_X10_bringBack : Nat → Option (List QE) := q_look L_X10_bringBack
theorem s_X10_bringBack_0 : s_X10_bringBack 0 = some b_X10_bringBack_0 := id rfl
theorem s_X10_bringBack_6 : s_X10_bringBack 6 = none := id rfl
theorem s_X10_bringBack_14 : s_X10_bringBack 14 = some b_X10_bringBack_14 := id rfl
theorem s_X10_bringBack_51 : s_X10_bringBack 51 = some b_X10_bringBack_51 := id rfl
theorem s_X10_bringBack_63 : s_X10_bringBack 63 = some b_X10_bringBack_63 := id rfl
theorem s_X10_bringBack_69 : s_X10_bringBack 69 = some b_X10_bringBack_69 := id rfl
def u_X10_bringBack : QU := ([19, 185, 103], [], [], [], [98], [], [])
theorem o_X10_bringBack : q_skok cX10_bringBack 6 u_X10_bringBack L_X10_bringBack = true := by decide +kernel
theorem o_X10_bringBack_6 : q_ok cX10_bringBack 6 u_X10_bringBack 6 b_X10_bringBack_6 = true := by decide +kernel
theorem k_X10_bringBack : q_chk RX10 fl_X10 ld_X10 u_X10_bringBack = true := by decide +kernel
def b_X10_isSide_0 : List QE := [(.iload_n 0, 1, []), (.iconst 2, 2, []), (.if_icmp .lt 13, 5, [(0, 15)])]
def b_X10_isSide_5 : List QE := [(.iload_n 0, 6, []), (.bipush 12, 8, []), (.if_icmp .gt 7, 11, [(0, 15)])]
def b_X10_isSide_11 : List QE := [(.iconst 1, 12, []), (.goto 4, 15, [(0, 16)])]
def b_X10_isSide_15 : List QE := [(.iconst 0, 16, [])]
def b_X10_isSide_16 : List QE := [(.ireturn, 17, [])]
def L_X10_isSide : List (Nat × Option (List QE)) := [(0, some b_X10_isSide_0), (5, some b_X10_isSide_5), (11, some b_X10_isSide_11), (15, some b_X10_isSide_15), (16, some b_X10_isSide_16)]
def s_X10_isSide : Nat → Option (List QE) := q_look L_X10_isSide
theorem s_X10_isSide_0 : s_X10_isSide 0 = some b_X10_isSide_0 := id rfl
theorem s_X10_isSide_5 : s_X10_isSide 5 = some b_X10_isSide_5 := id rfl
theorem s_X10_isSide_11 : s_X10_isSide 11 = some b_X10_isSide_11 := id rfl
theorem s_X10_isSide_15 : s_X10_isSide 15 = some b_X10_isSide_15 := id rfl
theorem s_X10_isSide_16 : s_X10_isSide 16 = some b_X10_isSide_16 := id rfl
def u_X10_isSide : QU := ([], [], [], [], [], [], [])
theorem o_X10_isSide : q_skok cX10_isSide 1 u_X10_isSide L_X10_isSide = true := by decide +kernel
theorem k_X10_isSide : q_chk RX10 fl_X10 ld_X10 u_X10_isSide = true := by decide +kernel
def b_X10_isSheet_0 : List QE := [(.iload_n 0, 1, []), (.ifCond .lt 12, 4, [(0, 13)])]
def b_X10_isSheet_4 : List QE := [(.iload_n 0, 5, []), (.iconst 4, 6, []), (.if_icmp .ge 7, 9, [(0, 13)])]
def b_X10_isSheet_9 : List QE := [(.iconst 1, 10, []), (.goto 4, 13, [(0, 14)])]
def b_X10_isSheet_13 : List QE := [(.iconst 0, 14, [])]
def b_X10_isSheet_14 : List QE := [(.ireturn, 15, [])]
def L_X10_isSheet : List (Nat × Option (List QE)) := [(0, some b_X10_isSheet_0), (4, some b_X10_isSheet_4), (9, some b_X10_isSheet_9), (13, some b_X10_isSheet_13), (14, some b_X10_isSheet_14)]
def s_X10_isSheet : Nat → Option (List QE) := q_look L_X10_isSheet
theorem s_X10_isSheet_0 : s_X10_isSheet 0 = some b_X10_isSheet_0 := id rfl
theorem s_X10_isSheet_4 : s_X10_isSheet 4 = some b_X10_isSheet_4 := id rfl
theorem s_X10_isSheet_9 : s_X10_isSheet 9 = some b_X10_isSheet_9 := id rfl
theorem s_X10_isSheet_13 : s_X10_isSheet 13 = some b_X10_isSheet_13 := id rfl
theorem s_X10_isSheet_14 : s_X10_isSheet 14 = some b_X10_isSheet_14 := id rfl
def u_X10_isSheet : QU := ([], [], [], [], [], [], [])
theorem o_X10_isSheet : q_skok cX10_isSheet 1 u_X10_isSheet L_X10_isSheet = true := by decide +kernel
theorem k_X10_isSheet : q_chk RX10 fl_X10 ld_X10 u_X10_isSheet = true := by decide +kernel
def b_X10_isImage_0 : List QE := [(.iload_n 0, 1, []), (.ifCond .lt 12, 4, [(0, 13)])]
def b_X10_isImage_4 : List QE := [(.iload_n 0, 5, []), (.iconst 3, 6, []), (.if_icmp .ge 7, 9, [(0, 13)])]
def b_X10_isImage_9 : List QE := [(.iconst 1, 10, []), (.goto 4, 13, [(0, 14)])]
def b_X10_isImage_13 : List QE := [(.iconst 0, 14, [])]
def b_X10_isImage_14 : List QE := [(.ireturn, 15, [])]
def L_X10_isImage : List (Nat × Option (List QE)) := [(0, some b_X10_isImage_0), (4, some b_X10_isImage_4), (9, some b_X10_isImage_9), (13, some b_X10_isImage_13), (14, some b_X10_isImage_14)]
def s_X10_isImage : Nat → Option (List QE) := q_look L_X10_isImage
theorem s_X10_isImage_0 : s_X10_isImage 0 = some b_X10_isImage_0 := id rfl
theorem s_X10_isImage_4 : s_X10_isImage 4 = some b_X10_isImage_4 := id rfl
theorem s_X10_isImage_9 : s_X10_isImage 9 = some b_X10_isImage_9 := id rfl
theorem s_X10_isImage_13 : s_X10_isImage 13 = some b_X10_isImage_13 := id rfl
theorem s_X10_isImage_14 : s_X10_isImage 14 = some b_X10_isImage_14 := id rfl
def u_X10_isImage : QU := ([], [], [], [], [], [], [])
theorem o_X10_isImage : q_skok cX10_isImage 1 u_X10_isImage L_X10_isImage = true := by decide +kernel
theorem k_X10_isImage : q_chk RX10 fl_X10 ld_X10 u_X10_isImage = true := by decide +kernel
def b_X10_isTellable_0 : List QE := [(.iload_n 0, 1, []), (.ldc 102, 3, []), (.if_icmp .eq 15, 6, [(0, 18)])]
def b_X10_isTellable_6 : List QE := [(.iload_n 0, 7, []), (.ldc 188, 9, []), (.if_icmp .lt 13, 12, [(0, 22)])]
def b_X10_isTellable_12 : List QE := [(.iload_n 0, 13, []), (.ldc 189, 15, []), (.if_icmp .gt 7, 18, [(0, 22)])]
def b_X10_isTellable_18 : List QE := [(.iconst 1, 19, []), (.goto 4, 22, [(0, 23)])]
def b_X10_isTellable_22 : List QE := [(.iconst 0, 23, [])]
def b_X10_isTellable_23 : List QE := [(.ireturn, 24, [])]
def L_X10_isTellable : List (Nat × Option (List QE)) := [(0, some b_X10_isTellable_0), (6, some b_X10_isTellable_6), (12, some b_X10_isTellable_12), (18, some b_X10_isTellable_18), (22, some b_X10_isTellable_22), (23, some b_X10_isTellable_23)]
def s_X10_isTellable : Nat → Option (List QE) := q_look L_X10_isTellable
theorem s_X10_isTellable_0 : s_X10_isTellable 0 = some b_X10_isTellable_0 := id rfl
theorem s_X10_isTellable_6 : s_X10_isTellable 6 = some b_X10_isTellable_6 := id rfl
theorem s_X10_isTellable_12 : s_X10_isTellable 12 = some b_X10_isTellable_12 := id rfl
theorem s_X10_isTellable_18 : s_X10_isTellable 18 = some b_X10_isTellable_18 := id rfl
theorem s_X10_isTellable_22 : s_X10_isTellable 22 = some b_X10_isTellable_22 := id rfl
theorem s_X10_isTellable_23 : s_X10_isTellable 23 = some b_X10_isTellable_23 := id rfl
def u_X10_isTellable : QU := ([], [], [102, 188, 189], [], [], [], [])
theorem o_X10_isTellable : q_skok cX10_isTellable 1 u_X10_isTellable L_X10_isTellable = true := by decide +kernel
theorem k_X10_isTellable : q_chk RX10 fl_X10 ld_X10 u_X10_isTellable = true := by decide +kernel
def b_X10_placeOf_0 : List QE := [(.iload_n 1, 1, []), (.iconst 1, 2, []), (.iadd, 3, []), (.bipush 14, 5, []), (.imul, 6, []), (.iload_n 0, 7, []), (.iadd, 8, []), (.iconst 1, 9, []), (.iadd, 10, []), (.ireturn, 11, [])]
def L_X10_placeOf : List (Nat × Option (List QE)) := [(0, some b_X10_placeOf_0)]
def s_X10_placeOf : Nat → Option (List QE) := q_look L_X10_placeOf
theorem s_X10_placeOf_0 : s_X10_placeOf 0 = some b_X10_placeOf_0 := id rfl
def u_X10_placeOf : QU := ([], [], [], [], [], [], [])
theorem o_X10_placeOf : q_skok cX10_placeOf 2 u_X10_placeOf L_X10_placeOf = true := by decide +kernel
theorem k_X10_placeOf : q_chk RX10 fl_X10 ld_X10 u_X10_placeOf = true := by decide +kernel
def b_X10_tileOf_0 : List QE := [(.iload_n 1, 1, []), (.iconst 4, 2, []), (.idiv, 3, []), (.iconst 3, 4, []), (.imul, 5, []), (.iload_n 0, 6, []), (.iconst 4, 7, []), (.idiv, 8, []), (.iadd, 9, []), (.ireturn, 10, [])]
def L_X10_tileOf : List (Nat × Option (List QE)) := [(0, some b_X10_tileOf_0)]
def s_X10_tileOf : Nat → Option (List QE) := q_look L_X10_tileOf
theorem s_X10_tileOf_0 : s_X10_tileOf 0 = some b_X10_tileOf_0 := id rfl
def u_X10_tileOf : QU := ([], [], [], [], [], [], [])
theorem o_X10_tileOf : q_skok cX10_tileOf 2 u_X10_tileOf L_X10_tileOf = true := by decide +kernel
theorem k_X10_tileOf : q_chk RX10 fl_X10 ld_X10 u_X10_tileOf = true := by decide +kernel
def b_X10_orGap_0 : List QE := [(.lload_n 0, 1, []), (.ldc2_w 190, 4, []), (.lcmp, 5, []), (.ifCond .lt 11, 8, [(0, 16)])]
def b_X10_orGap_8 : List QE := [(.lload_n 0, 9, []), (.ldc2_w 192, 12, []), (.lcmp, 13, []), (.ifCond .le 8, 16, [(0, 21)])]
def b_X10_orGap_16 : List QE := [(.ldc 102, 18, []), (.goto 5, 21, [(0, 23)])]
def b_X10_orGap_21 : List QE := [(.lload_n 0, 22, []), (.l2i, 23, [])]
def b_X10_orGap_23 : List QE := [(.ireturn, 24, [])]
def L_X10_orGap : List (Nat × Option (List QE)) := [(0, some b_X10_orGap_0), (8, some b_X10_orGap_8), (16, some b_X10_orGap_16), (21, some b_X10_orGap_21), (23, some b_X10_orGap_23)]
def s_X10_orGap : Nat → Option (List QE) := q_look L_X10_orGap
theorem s_X10_orGap_0 : s_X10_orGap 0 = some b_X10_orGap_0 := id rfl
theorem s_X10_orGap_8 : s_X10_orGap 8 = some b_X10_orGap_8 := id rfl
theorem s_X10_orGap_16 : s_X10_orGap 16 = some b_X10_orGap_16 := id rfl
theorem s_X10_orGap_21 : s_X10_orGap 21 = some b_X10_orGap_21 := id rfl
theorem s_X10_orGap_23 : s_X10_orGap 23 = some b_X10_orGap_23 := id rfl
def u_X10_orGap : QU := ([], [], [190, 192, 102], [], [], [], [])
theorem o_X10_orGap : q_skok cX10_orGap 2 u_X10_orGap L_X10_orGap = true := by decide +kernel
theorem k_X10_orGap : q_chk RX10 fl_X10 ld_X10 u_X10_orGap = true := by decide +kernel
def b_J6_bitCount_0f7a4_0 : List QE := [(.iload_n 0, 1, []), (.iload_n 0, 2, []), (.iconst 1, 3, []), (.iushr, 4, []), (.ldc_w 265, 7, []), (.iand, 8, []), (.isub, 9, []), (.istore_n 0, 10, []), (.iload_n 0, 11, []), (.ldc_w 266, 14, []), (.iand, 15, []), (.iload_n 0, 16, []), (.iconst 2, 17, []), (.iushr, 18, []), (.ldc_w 266, 21, []), (.iand, 22, []), (.iadd, 23, []), (.istore_n 0, 24, []), (.iload_n 0, 25, []), (.iload_n 0, 26, []), (.iconst 4, 27, []), (.iushr, 28, []), (.iadd, 29, []), (.ldc_w 267, 32, []), (.iand, 33, []), (.istore_n 0, 34, []), (.iload_n 0, 35, []), (.iload_n 0, 36, []), (.bipush 8, 38, []), (.iushr, 39, []), (.iadd, 40, []), (.istore_n 0, 41, []), (.iload_n 0, 42, []), (.iload_n 0, 43, []), (.bipush 16, 45, []), (.iushr, 46, []), (.iadd, 47, []), (.istore_n 0, 48, []), (.iload_n 0, 49, []), (.bipush 63, 51, []), (.iand, 52, []), (.ireturn, 53, [])]
def L_J6_bitCount_0f7a4 : List (Nat × Option (List QE)) := [(0, some b_J6_bitCount_0f7a4_0)]
def s_J6_bitCount_0f7a4 : Nat → Option (List QE) := q_look L_J6_bitCount_0f7a4
theorem s_J6_bitCount_0f7a4_0 : s_J6_bitCount_0f7a4 0 = some b_J6_bitCount_0f7a4_0 := id rfl
def u_J6_bitCount_0f7a4 : QU := ([], [], [265, 266, 267], [], [], [], [])
theorem o_J6_bitCount_0f7a4 : q_skok cJ6_bitCount_0f7a4 1 u_J6_bitCount_0f7a4 L_J6_bitCount_0f7a4 = true := by decide +kernel
theorem k_J6_bitCount_0f7a4 : q_chk RJ6 fl_J6 ld_J6 u_J6_bitCount_0f7a4 = true := by decide +kernel
def b_J9_max_7cf53_0 : List QE := [(.iload_n 0, 1, []), (.iload_n 1, 2, []), (.if_icmp .lt 7, 5, [(0, 9)])]
def b_J9_max_7cf53_5 : List QE := [(.iload_n 0, 6, []), (.goto 4, 9, [(0, 10)])]
def b_J9_max_7cf53_9 : List QE := [(.iload_n 1, 10, [])]
def b_J9_max_7cf53_10 : List QE := [(.ireturn, 11, [])]
def L_J9_max_7cf53 : List (Nat × Option (List QE)) := [(0, some b_J9_max_7cf53_0), (5, some b_J9_max_7cf53_5), (9, some b_J9_max_7cf53_9), (10, some b_J9_max_7cf53_10)]
def s_J9_max_7cf53 : Nat → Option (List QE) := q_look L_J9_max_7cf53
theorem s_J9_max_7cf53_0 : s_J9_max_7cf53 0 = some b_J9_max_7cf53_0 := id rfl
theorem s_J9_max_7cf53_5 : s_J9_max_7cf53 5 = some b_J9_max_7cf53_5 := id rfl
theorem s_J9_max_7cf53_9 : s_J9_max_7cf53 9 = some b_J9_max_7cf53_9 := id rfl
theorem s_J9_max_7cf53_10 : s_J9_max_7cf53 10 = some b_J9_max_7cf53_10 := id rfl
def u_J9_max_7cf53 : QU := ([], [], [], [], [], [], [])
theorem o_J9_max_7cf53 : q_skok cJ9_max_7cf53 2 u_J9_max_7cf53 L_J9_max_7cf53 = true := by decide +kernel
theorem k_J9_max_7cf53 : q_chk RJ9 fl_J9 ld_J9 u_J9_max_7cf53 = true := by decide +kernel
def b_J9_min_7cf53_0 : List QE := [(.iload_n 0, 1, []), (.iload_n 1, 2, []), (.if_icmp .gt 7, 5, [(0, 9)])]
def b_J9_min_7cf53_5 : List QE := [(.iload_n 0, 6, []), (.goto 4, 9, [(0, 10)])]
def b_J9_min_7cf53_9 : List QE := [(.iload_n 1, 10, [])]
def b_J9_min_7cf53_10 : List QE := [(.ireturn, 11, [])]
def L_J9_min_7cf53 : List (Nat × Option (List QE)) := [(0, some b_J9_min_7cf53_0), (5, some b_J9_min_7cf53_5), (9, some b_J9_min_7cf53_9), (10, some b_J9_min_7cf53_10)]
def s_J9_min_7cf53 : Nat → Option (List QE) := q_look L_J9_min_7cf53
theorem s_J9_min_7cf53_0 : s_J9_min_7cf53 0 = some b_J9_min_7cf53_0 := id rfl
theorem s_J9_min_7cf53_5 : s_J9_min_7cf53 5 = some b_J9_min_7cf53_5 := id rfl
theorem s_J9_min_7cf53_9 : s_J9_min_7cf53 9 = some b_J9_min_7cf53_9 := id rfl
theorem s_J9_min_7cf53_10 : s_J9_min_7cf53 10 = some b_J9_min_7cf53_10 := id rfl
def u_J9_min_7cf53 : QU := ([], [], [], [], [], [], [])
theorem o_J9_min_7cf53 : q_skok cJ9_min_7cf53 2 u_J9_min_7cf53 L_J9_min_7cf53 = true := by decide +kernel
theorem k_J9_min_7cf53 : q_chk RJ9 fl_J9 ld_J9 u_J9_min_7cf53 = true := by decide +kernel
def b_J7_fill_53178_0 : List QE := [(.iconst 0, 1, []), (.istore_n 2, 2, []), (.aload_n 0, 3, []), (.arraylength, 4, []), (.istore_n 3, 5, [])]
def b_J7_fill_53178_5 : List QE := [(.iload_n 2, 6, []), (.iload_n 3, 7, []), (.if_icmp .ge 13, 10, [(0, 20)])]
def b_J7_fill_53178_10 : List QE := [(.aload_n 0, 11, []), (.iload_n 2, 12, []), (.iload_n 1, 13, []), (.iastore, 14, []), (.iinc 2 1, 17, []), (.goto (-12), 20, [(0, 5)])]
def b_J7_fill_53178_20 : List QE := [(.return_, 21, [])]
def L_J7_fill_53178 : List (Nat × Option (List QE)) := [(0, some b_J7_fill_53178_0), (5, none), (10, some b_J7_fill_53178_10), (20, some b_J7_fill_53178_20)]
def s_J7_fill_53178 : Nat → Option (List QE) := q_look L_J7_fill_53178
theorem s_J7_fill_53178_0 : s_J7_fill_53178 0 = some b_J7_fill_53178_0 := id rfl
theorem s_J7_fill_53178_5 : s_J7_fill_53178 5 = none := id rfl
theorem s_J7_fill_53178_10 : s_J7_fill_53178 10 = some b_J7_fill_53178_10 := id rfl
theorem s_J7_fill_53178_20 : s_J7_fill_53178 20 = some b_J7_fill_53178_20 := id rfl
def u_J7_fill_53178 : QU := ([], [], [], [], [], [], [])
theorem o_J7_fill_53178 : q_skok cJ7_fill_53178 4 u_J7_fill_53178 L_J7_fill_53178 = true := by decide +kernel
theorem o_J7_fill_53178_5 : q_ok cJ7_fill_53178 4 u_J7_fill_53178 5 b_J7_fill_53178_5 = true := by decide +kernel
theorem k_J7_fill_53178 : q_chk RJ7 fl_J7 ld_J7 u_J7_fill_53178 = true := by decide +kernel
end
section
def b_X11_in_0 : List QE := [(.lload_n 0, 1, []), (.lload_n 2, 2, []), (.lcmp, 3, []), (.ifCond .lt 14, 6, [(0, 17)])]
def b_X11_in_6 : List QE := [(.lload_n 0, 7, []), (.lload 4, 9, []), (.lcmp, 10, []), (.ifCond .gt 7, 13, [(0, 17)])]
def b_X11_in_13 : List QE := [(.iconst 1, 14, []), (.goto 4, 17, [(0, 18)])]
def b_X11_in_17 : List QE := [(.iconst 0, 18, [])]
def b_X11_in_18 : List QE := [(.ireturn, 19, [])]
def L_X11_in : List (Nat × Option (List QE)) := [(0, some b_X11_in_0), (6, some b_X11_in_6), (13, some b_X11_in_13), (17, some b_X11_in_17), (18, some b_X11_in_18)]
def s_X11_in : Nat → Option (List QE) := q_look L_X11_in
theorem s_X11_in_0 : s_X11_in 0 = some b_X11_in_0 := id rfl
theorem s_X11_in_6 : s_X11_in 6 = some b_X11_in_6 := id rfl
theorem s_X11_in_13 : s_X11_in 13 = some b_X11_in_13 := id rfl
theorem s_X11_in_17 : s_X11_in 17 = some b_X11_in_17 := id rfl
theorem s_X11_in_18 : s_X11_in 18 = some b_X11_in_18 := id rfl
def u_X11_in : QU := ([], [], [], [], [], [], [])
theorem o_X11_in : q_skok cX11_in 6 u_X11_in L_X11_in = true := by decide +kernel
theorem k_X11_in : q_chk RX11 fl_X11 ld_X11 u_X11_in = true := by decide +kernel
def b_X11_answer_0 : List QE := [(.aload_n 0, 1, []), (.iload_n 1, 2, []), (.ifCond .ge 7, 5, [(0, 9)])]
def b_X11_answer_5 : List QE := [(.iload_n 1, 6, []), (.goto 4, 9, [(0, 10)])]
def b_X11_answer_9 : List QE := [(.iconst 0, 10, [])]
def b_X11_answer_10 : List QE := [(.putfield 88, 13, []), (.iload_n 1, 14, []), (.ireturn, 15, [])]
def L_X11_answer : List (Nat × Option (List QE)) := [(0, some b_X11_answer_0), (5, some b_X11_answer_5), (9, some b_X11_answer_9), (10, some b_X11_answer_10)]
def s_X11_answer : Nat → Option (List QE) := q_look L_X11_answer
theorem s_X11_answer_0 : s_X11_answer 0 = some b_X11_answer_0 := id rfl
theorem s_X11_answer_5 : s_X11_answer 5 = some b_X11_answer_5 := id rfl
theorem s_X11_answer_9 : s_X11_answer 9 = some b_X11_answer_9 := id rfl
theorem s_X11_answer_10 : s_X11_answer 10 = some b_X11_answer_10 := id rfl
def u_X11_answer : QU := ([88], [88], [], [], [], [], [])
theorem o_X11_answer : q_skok cX11_answer 2 u_X11_answer L_X11_answer = true := by decide +kernel
theorem k_X11_answer : q_chk RX11 fl_X11 ld_X11 u_X11_answer = true := by decide +kernel
def b_X11_clearSheets_0 : List QE := [(.iconst 0, 1, []), (.istore_n 1, 2, [])]
def b_X11_clearSheets_2 : List QE := [(.iload_n 1, 3, []), (.sipush 576, 6, []), (.if_icmp .ge 17, 9, [(0, 23)])]
def b_X11_clearSheets_9 : List QE := [(.aload_n 0, 10, []), (.getfield 16, 13, []), (.iload_n 1, 14, []), (.ldc 91, 16, []), (.iastore, 17, []), (.iinc 1 1, 20, []), (.goto (-18), 23, [(0, 2)])]
def b_X11_clearSheets_23 : List QE := [(.iconst 0, 24, []), (.istore_n 1, 25, [])]
def b_X11_clearSheets_25 : List QE := [(.iload_n 1, 26, []), (.iconst 3, 27, []), (.if_icmp .ge 16, 30, [(0, 43)])]
def b_X11_clearSheets_30 : List QE := [(.aload_n 0, 31, []), (.getfield 23, 34, []), (.iload_n 1, 35, []), (.iconst 0, 36, []), (.bastore, 37, []), (.iinc 1 1, 40, []), (.goto (-15), 43, [(0, 25)])]
def b_X11_clearSheets_43 : List QE := [(.aload_n 0, 44, []), (.invokevirtual 92, 47, []), (.return_, 48, [])]
def L_X11_clearSheets : List (Nat × Option (List QE)) := [(0, some b_X11_clearSheets_0), (2, none), (9, some b_X11_clearSheets_9), (23, some b_X11_clearSheets_23), (25, none), (30, some b_X11_clearSheets_30), (43, some b_X11_clearSheets_43)]
def s_X11_clearSheets : Nat → Option (List QE) := q_look L_X11_clearSheets
theorem s_X11_clearSheets_0 : s_X11_clearSheets 0 = some b_X11_clearSheets_0 := id rfl
theorem s_X11_clearSheets_2 : s_X11_clearSheets 2 = none := id rfl
theorem s_X11_clearSheets_9 : s_X11_clearSheets 9 = some b_X11_clearSheets_9 := id rfl
theorem s_X11_clearSheets_23 : s_X11_clearSheets 23 = some b_X11_clearSheets_23 := id rfl
theorem s_X11_clearSheets_25 : s_X11_clearSheets 25 = none := id rfl
theorem s_X11_clearSheets_30 : s_X11_clearSheets 30 = some b_X11_clearSheets_30 := id rfl
theorem s_X11_clearSheets_43 : s_X11_clearSheets 43 = some b_X11_clearSheets_43 := id rfl
def u_X11_clearSheets : QU := ([16, 23], [], [91], [], [92], [], [])
theorem o_X11_clearSheets : q_skok cX11_clearSheets 2 u_X11_clearSheets L_X11_clearSheets = true := by decide +kernel
theorem o_X11_clearSheets_25 : q_ok cX11_clearSheets 2 u_X11_clearSheets 25 b_X11_clearSheets_25 = true := by decide +kernel
theorem o_X11_clearSheets_2 : q_ok cX11_clearSheets 2 u_X11_clearSheets 2 b_X11_clearSheets_2 = true := by decide +kernel
theorem k_X11_clearSheets : q_chk RX11 fl_X11 ld_X11 u_X11_clearSheets = true := by decide +kernel
def b_X11_isCell_0 : List QE := [(.iload_n 1, 1, []), (.i2l, 2, []), (.lconst 0, 3, []), (.aload_n 0, 4, []), (.getfield 7, 7, []), (.i2l, 8, []), (.lconst 1, 9, []), (.lsub, 10, []), (.invokestatic 95, 13, []), (.ifCond .eq 23, 16, [(0, 36)])]
def b_X11_isCell_16 : List QE := [(.iload_n 2, 17, []), (.i2l, 18, []), (.lconst 0, 19, []), (.aload_n 0, 20, []), (.getfield 13, 23, []), (.i2l, 24, []), (.lconst 1, 25, []), (.lsub, 26, []), (.invokestatic 95, 29, []), (.ifCond .eq 7, 32, [(0, 36)])]
def b_X11_isCell_32 : List QE := [(.iconst 1, 33, []), (.goto 4, 36, [(0, 37)])]
def b_X11_isCell_36 : List QE := [(.iconst 0, 37, [])]
def b_X11_isCell_37 : List QE := [(.ireturn, 38, [])]
def L_X11_isCell : List (Nat × Option (List QE)) := [(0, some b_X11_isCell_0), (16, some b_X11_isCell_16), (32, some b_X11_isCell_32), (36, some b_X11_isCell_36), (37, some b_X11_isCell_37)]
def s_X11_isCell : Nat → Option (List QE) := q_look L_X11_isCell
theorem s_X11_isCell_0 : s_X11_isCell 0 = some b_X11_isCell_0 := id rfl
theorem s_X11_isCell_16 : s_X11_isCell 16 = some b_X11_isCell_16 := id rfl
theorem s_X11_isCell_32 : s_X11_isCell 32 = some b_X11_isCell_32 := id rfl
theorem s_X11_isCell_36 : s_X11_isCell 36 = some b_X11_isCell_36 := id rfl
theorem s_X11_isCell_37 : s_X11_isCell 37 = some b_X11_isCell_37 := id rfl
def u_X11_isCell : QU := ([7, 13], [], [], [], [], [95], [])
theorem o_X11_isCell : q_skok cX11_isCell 3 u_X11_isCell L_X11_isCell = true := by decide +kernel
theorem k_X11_isCell : q_chk RX11 fl_X11 ld_X11 u_X11_isCell = true := by decide +kernel
def b_X11_size_0 : List QE := [(.aload_n 0, 1, []), (.iconst 0, 2, []), (.putfield 85, 5, []), (.iload_n 1, 6, []), (.i2l, 7, []), (.ldc2_w 99, 10, []), (.ldc2_w 101, 13, []), (.invokestatic 95, 16, []), (.ifCond .eq 17, 19, [(0, 33)])]
def b_X11_size_19 : List QE := [(.iload_n 2, 20, []), (.i2l, 21, []), (.ldc2_w 99, 24, []), (.ldc2_w 101, 27, []), (.invokestatic 95, 30, []), (.ifCond .ne 9, 33, [(0, 39)])]
def b_X11_size_33 : List QE := [(.aload_n 0, 34, []), (.iconst (-1), 35, []), (.invokevirtual 103, 38, []), (.ireturn, 39, [])]
def b_X11_size_39 : List QE := [(.aload_n 0, 40, []), (.iload_n 1, 41, []), (.putfield 7, 44, []), (.aload_n 0, 45, []), (.iload_n 2, 46, []), (.putfield 13, 49, []), (.aload_n 0, 50, []), (.invokevirtual 82, 53, []), (.aload_n 0, 54, []), (.iconst 0, 55, []), (.invokevirtual 103, 58, []), (.ireturn, 59, [])]
def L_X11_size : List (Nat × Option (List QE)) := [(0, some b_X11_size_0), (19, some b_X11_size_19), (33, some b_X11_size_33), (39, some b_X11_size_39)]
def s_X11_size : Nat → Option (List QE) := q_look L_X11_size
theorem s_X11_size_0 : s_X11_size 0 = some b_X11_size_0 := id rfl
theorem s_X11_size_19 : s_X11_size 19 = some b_X11_size_19 := id rfl
theorem s_X11_size_33 : s_X11_size 33 = some b_X11_size_33 := id rfl
theorem s_X11_size_39 : s_X11_size 39 = some b_X11_size_39 := id rfl
def u_X11_size : QU := ([85, 7, 13], [85, 7, 13], [99, 101], [], [103, 82], [95], [])
theorem o_X11_size : q_skok cX11_size 3 u_X11_size L_X11_size = true := by decide +kernel
theorem k_X11_size : q_chk RX11 fl_X11 ld_X11 u_X11_size = true := by decide +kernel
def b_X11_tell_0 : List QE := [(.aload_n 0, 1, []), (.iconst 0, 2, []), (.putfield 85, 5, []), (.iload_n 1, 6, []), (.i2l, 7, []), (.lconst 0, 8, []), (.ldc2_w 107, 11, []), (.invokestatic 95, 14, []), (.ifCond .eq 25, 17, [(0, 39)])]
def b_X11_tell_17 : List QE := [(.iload 4, 19, []), (.ldc 91, 21, []), (.if_icmp .eq 24, 24, [(0, 45)])]
def b_X11_tell_24 : List QE := [(.iload 4, 26, []), (.i2l, 27, []), (.ldc2_w 109, 30, []), (.ldc2_w 111, 33, []), (.invokestatic 95, 36, []), (.ifCond .ne 9, 39, [(0, 45)])]
def b_X11_tell_39 : List QE := [(.aload_n 0, 40, []), (.iconst (-1), 41, []), (.invokevirtual 103, 44, []), (.ireturn, 45, [])]
def b_X11_tell_45 : List QE := [(.aload_n 0, 46, []), (.iload_n 2, 47, []), (.iload_n 3, 48, []), (.invokevirtual 113, 51, []), (.ifCond .ne 10, 54, [(0, 61)])]
def b_X11_tell_54 : List QE := [(.aload_n 0, 55, []), (.bipush (-2), 57, []), (.invokevirtual 103, 60, []), (.ireturn, 61, [])]
def b_X11_tell_61 : List QE := [(.aload_n 0, 62, []), (.iload_n 1, 63, []), (.iload_n 2, 64, []), (.iload_n 3, 65, []), (.iload 4, 67, []), (.invokevirtual 117, 70, []), (.aload_n 0, 71, []), (.iconst 0, 72, []), (.invokevirtual 103, 75, []), (.ireturn, 76, [])]
def L_X11_tell : List (Nat × Option (List QE)) := [(0, some b_X11_tell_0), (17, some b_X11_tell_17), (24, some b_X11_tell_24), (39, some b_X11_tell_39), (45, some b_X11_tell_45), (54, some b_X11_tell_54), (61, some b_X11_tell_61)]
def s_X11_tell : Nat → Option (List QE) := q_look L_X11_tell
theorem s_X11_tell_0 : s_X11_tell 0 = some b_X11_tell_0 := id rfl
theorem s_X11_tell_17 : s_X11_tell 17 = some b_X11_tell_17 := id rfl
theorem s_X11_tell_24 : s_X11_tell 24 = some b_X11_tell_24 := id rfl
theorem s_X11_tell_39 : s_X11_tell 39 = some b_X11_tell_39 := id rfl
theorem s_X11_tell_45 : s_X11_tell 45 = some b_X11_tell_45 := id rfl
theorem s_X11_tell_54 : s_X11_tell 54 = some b_X11_tell_54 := id rfl
theorem s_X11_tell_61 : s_X11_tell 61 = some b_X11_tell_61 := id rfl
def u_X11_tell : QU := ([85], [85], [107, 91, 109, 111], [], [103, 113, 117], [95], [])
theorem o_X11_tell : q_skok cX11_tell 5 u_X11_tell L_X11_tell = true := by decide +kernel
theorem k_X11_tell : q_chk RX11 fl_X11 ld_X11 u_X11_tell = true := by decide +kernel
def b_X11_tileOf_0 : List QE := [(.iload_n 1, 1, []), (.iconst 4, 2, []), (.idiv, 3, []), (.iconst 3, 4, []), (.imul, 5, []), (.iload_n 0, 6, []), (.iconst 4, 7, []), (.idiv, 8, []), (.iadd, 9, []), (.ireturn, 10, [])]
def L_X11_tileOf : List (Nat × Option (List QE)) := [(0, some b_X11_tileOf_0)]
def s_X11_tileOf : Nat → Option (List QE) := q_look L_X11_tileOf
theorem s_X11_tileOf_0 : s_X11_tileOf 0 = some b_X11_tileOf_0 := id rfl
def u_X11_tileOf : QU := ([], [], [], [], [], [], [])
theorem o_X11_tileOf : q_skok cX11_tileOf 2 u_X11_tileOf L_X11_tileOf = true := by decide +kernel
theorem k_X11_tileOf : q_chk RX11 fl_X11 ld_X11 u_X11_tileOf = true := by decide +kernel
def b_X11_put_0 : List QE := [(.aload_n 0, 1, []), (.getfield 16, 4, []), (.sipush 144, 7, []), (.iload_n 1, 8, []), (.imul, 9, []), (.bipush 12, 11, []), (.iload_n 3, 12, []), (.imul, 13, []), (.iadd, 14, []), (.iload_n 2, 15, []), (.iadd, 16, []), (.iload 4, 18, []), (.iastore, 19, []), (.iconst 1, 20, []), (.iload_n 2, 21, []), (.iload_n 3, 22, []), (.invokestatic 121, 25, []), (.ishl, 26, []), (.istore 5, 28, []), (.iconst 0, 29, []), (.istore 6, 31, [])]
def b_X11_put_31 : List QE := [(.iload 6, 33, []), (.aload_n 0, 34, []), (.getfield 125, 37, []), (.if_icmp .ge 74, 40, [(0, 111)])]
def b_X11_put_40 : List QE := [(.iconst 0, 41, []), (.istore 7, 43, [])]
def b_X11_put_43 : List QE := [(.iload 7, 45, []), (.bipush 9, 47, []), (.if_icmp .ge 58, 50, [(0, 105)])]
def b_X11_put_50 : List QE := [(.aload_n 0, 51, []), (.getfield 42, 54, []), (.bipush 9, 56, []), (.iload 6, 58, []), (.imul, 59, []), (.iload 7, 61, []), (.iadd, 62, []), (.aload_n 0, 63, []), (.getfield 42, 66, []), (.bipush 9, 68, []), (.iload 6, 70, []), (.imul, 71, []), (.iload 7, 73, []), (.iadd, 74, []), (.baload, 75, []), (.ifCond .eq 22, 78, [(0, 97)])]
def b_X11_put_78 : List QE := [(.aload_n 0, 79, []), (.iload 6, 81, []), (.iload 7, 83, []), (.iload_n 1, 84, []), (.invokevirtual 128, 87, []), (.iload 5, 89, []), (.iand, 90, []), (.ifCond .ne 7, 93, [(0, 97)])]
def b_X11_put_93 : List QE := [(.iconst 1, 94, []), (.goto 4, 97, [(0, 98)])]
def b_X11_put_97 : List QE := [(.iconst 0, 98, [])]
def b_X11_put_98 : List QE := [(.bastore, 99, []), (.iinc 7 1, 102, []), (.goto (-59), 105, [(0, 43)])]
def b_X11_put_105 : List QE := [(.iinc 6 1, 108, []), (.goto (-77), 111, [(0, 31)])]
def b_X11_put_111 : List QE := [(.return_, 112, [])]
def L_X11_put : List (Nat × Option (List QE)) := [(0, some b_X11_put_0), (31, none), (40, some b_X11_put_40), (43, none), (50, some b_X11_put_50), (78, some b_X11_put_78), (93, some b_X11_put_93), (97, some b_X11_put_97), (98, some b_X11_put_98), (105, some b_X11_put_105), (111, some b_X11_put_111)]
def s_X11_put : Nat → Option (List QE) := q_look L_X11_put
theorem s_X11_put_0 : s_X11_put 0 = some b_X11_put_0 := id rfl
theorem s_X11_put_31 : s_X11_put 31 = none := id rfl
theorem s_X11_put_40 : s_X11_put 40 = some b_X11_put_40 := id rfl
theorem s_X11_put_43 : s_X11_put 43 = none := id rfl
theorem s_X11_put_50 : s_X11_put 50 = some b_X11_put_50 := id rfl
theorem s_X11_put_78 : s_X11_put 78 = some b_X11_put_78 := id rfl
theorem s_X11_put_93 : s_X11_put 93 = some b_X11_put_93 := id rfl
theorem s_X11_put_97 : s_X11_put 97 = some b_X11_put_97 := id rfl
theorem s_X11_put_98 : s_X11_put 98 = some b_X11_put_98 := id rfl
theorem s_X11_put_105 : s_X11_put 105 = some b_X11_put_105 := id rfl
theorem s_X11_put_111 : s_X11_put 111 = some b_X11_put_111 := id rfl
def u_X11_put : QU := ([16, 125, 42], [], [], [], [128], [121], [])
theorem o_X11_put : q_skok cX11_put 8 u_X11_put L_X11_put = true := by decide +kernel
theorem o_X11_put_43 : q_ok cX11_put 8 u_X11_put 43 b_X11_put_43 = true := by decide +kernel
theorem o_X11_put_31 : q_ok cX11_put 8 u_X11_put 31 b_X11_put_31 = true := by decide +kernel
theorem k_X11_put : q_chk RX11 fl_X11 ld_X11 u_X11_put = true := by decide +kernel
def b_X11_told_0 : List QE := [(.aload_n 0, 1, []), (.iconst 0, 2, []), (.putfield 85, 5, []), (.iload_n 1, 6, []), (.i2l, 7, []), (.lconst 0, 8, []), (.ldc2_w 107, 11, []), (.invokestatic 95, 14, []), (.ifCond .eq 32, 17, [(0, 46)])]
def b_X11_told_17 : List QE := [(.aload_n 0, 18, []), (.iload_n 2, 19, []), (.iload_n 3, 20, []), (.invokevirtual 113, 23, []), (.ifCond .eq 23, 26, [(0, 46)])]
def b_X11_told_26 : List QE := [(.aload_n 0, 27, []), (.getfield 16, 30, []), (.sipush 144, 33, []), (.iload_n 1, 34, []), (.imul, 35, []), (.bipush 12, 37, []), (.iload_n 3, 38, []), (.imul, 39, []), (.iadd, 40, []), (.iload_n 2, 41, []), (.iadd, 42, []), (.iaload, 43, []), (.goto 5, 46, [(0, 48)])]
def b_X11_told_46 : List QE := [(.ldc 91, 48, [])]
def b_X11_told_48 : List QE := [(.ireturn, 49, [])]
def L_X11_told : List (Nat × Option (List QE)) := [(0, some b_X11_told_0), (17, some b_X11_told_17), (26, some b_X11_told_26), (46, some b_X11_told_46), (48, some b_X11_told_48)]
def s_X11_told : Nat → Option (List QE) := q_look L_X11_told
theorem s_X11_told_0 : s_X11_told 0 = some b_X11_told_0 := id rfl
theorem s_X11_told_17 : s_X11_told 17 = some b_X11_told_17 := id rfl
theorem s_X11_told_26 : s_X11_told 26 = some b_X11_told_26 := id rfl
theorem s_X11_told_46 : s_X11_told 46 = some b_X11_told_46 := id rfl
theorem s_X11_told_48 : s_X11_told 48 = some b_X11_told_48 := id rfl
def u_X11_told : QU := ([85, 16], [85], [107, 91], [], [113], [95], [])
theorem o_X11_told : q_skok cX11_told 4 u_X11_told L_X11_told = true := by decide +kernel
theorem k_X11_told : q_chk RX11 fl_X11 ld_X11 u_X11_told = true := by decide +kernel
def b_X11_staleAll_0 : List QE := [(.iconst 0, 1, []), (.istore_n 1, 2, [])]
def b_X11_staleAll_2 : List QE := [(.iload_n 1, 3, []), (.bipush 90, 5, []), (.if_icmp .ge 16, 8, [(0, 21)])]
def b_X11_staleAll_8 : List QE := [(.aload_n 0, 9, []), (.getfield 42, 12, []), (.iload_n 1, 13, []), (.iconst 0, 14, []), (.bastore, 15, []), (.iinc 1 1, 18, []), (.goto (-16), 21, [(0, 2)])]
def b_X11_staleAll_21 : List QE := [(.return_, 22, [])]
def L_X11_staleAll : List (Nat × Option (List QE)) := [(0, some b_X11_staleAll_0), (2, none), (8, some b_X11_staleAll_8), (21, some b_X11_staleAll_21)]
def s_X11_staleAll : Nat → Option (List QE) := q_look L_X11_staleAll
theorem s_X11_staleAll_0 : s_X11_staleAll 0 = some b_X11_staleAll_0 := id rfl
theorem s_X11_staleAll_2 : s_X11_staleAll 2 = none := id rfl
theorem s_X11_staleAll_8 : s_X11_staleAll 8 = some b_X11_staleAll_8 := id rfl
theorem s_X11_staleAll_21 : s_X11_staleAll 21 = some b_X11_staleAll_21 := id rfl
def u_X11_staleAll : QU := ([42], [], [], [], [], [], [])
theorem o_X11_staleAll : q_skok cX11_staleAll 2 u_X11_staleAll L_X11_staleAll = true := by decide +kernel
theorem o_X11_staleAll_2 : q_ok cX11_staleAll 2 u_X11_staleAll 2 b_X11_staleAll_2 = true := by decide +kernel
theorem k_X11_staleAll : q_chk RX11 fl_X11 ld_X11 u_X11_staleAll = true := by decide +kernel
def b_X11_isTile_0 : List QE := [(.iload_n 1, 1, []), (.i2l, 2, []), (.lconst 0, 3, []), (.ldc2_w 132, 6, []), (.invokestatic 95, 9, []), (.ifCond .eq 31, 12, [(0, 40)])]
def b_X11_isTile_12 : List QE := [(.iload_n 1, 13, []), (.iconst 3, 14, []), (.irem, 15, []), (.iconst 4, 16, []), (.imul, 17, []), (.aload_n 0, 18, []), (.getfield 7, 21, []), (.if_icmp .ge 19, 24, [(0, 40)])]
def b_X11_isTile_24 : List QE := [(.iload_n 1, 25, []), (.iconst 3, 26, []), (.idiv, 27, []), (.iconst 4, 28, []), (.imul, 29, []), (.aload_n 0, 30, []), (.getfield 13, 33, []), (.if_icmp .ge 7, 36, [(0, 40)])]
def b_X11_isTile_36 : List QE := [(.iconst 1, 37, []), (.goto 4, 40, [(0, 41)])]
def b_X11_isTile_40 : List QE := [(.iconst 0, 41, [])]
def b_X11_isTile_41 : List QE := [(.ireturn, 42, [])]
def L_X11_isTile : List (Nat × Option (List QE)) := [(0, some b_X11_isTile_0), (12, some b_X11_isTile_12), (24, some b_X11_isTile_24), (36, some b_X11_isTile_36), (40, some b_X11_isTile_40), (41, some b_X11_isTile_41)]
def s_X11_isTile : Nat → Option (List QE) := q_look L_X11_isTile
theorem s_X11_isTile_0 : s_X11_isTile 0 = some b_X11_isTile_0 := id rfl
theorem s_X11_isTile_12 : s_X11_isTile 12 = some b_X11_isTile_12 := id rfl
theorem s_X11_isTile_24 : s_X11_isTile 24 = some b_X11_isTile_24 := id rfl
theorem s_X11_isTile_36 : s_X11_isTile 36 = some b_X11_isTile_36 := id rfl
theorem s_X11_isTile_40 : s_X11_isTile 40 = some b_X11_isTile_40 := id rfl
theorem s_X11_isTile_41 : s_X11_isTile 41 = some b_X11_isTile_41 := id rfl
def u_X11_isTile : QU := ([7, 13], [], [132], [], [], [95], [])
theorem o_X11_isTile : q_skok cX11_isTile 2 u_X11_isTile L_X11_isTile = true := by decide +kernel
theorem k_X11_isTile : q_chk RX11 fl_X11 ld_X11 u_X11_isTile = true := by decide +kernel
def b_X11_allTiles_0 : List QE := [(.iconst 0, 1, []), (.istore_n 1, 2, []), (.iconst 0, 3, []), (.istore_n 2, 4, [])]
def b_X11_allTiles_4 : List QE := [(.iload_n 2, 5, []), (.bipush 9, 7, []), (.if_icmp .ge 27, 10, [(0, 34)])]
def b_X11_allTiles_10 : List QE := [(.iload_n 1, 11, []), (.aload_n 0, 12, []), (.iload_n 2, 13, []), (.invokevirtual 134, 16, []), (.ifCond .eq 9, 19, [(0, 25)])]
def b_X11_allTiles_19 : List QE := [(.iconst 1, 20, []), (.iload_n 2, 21, []), (.ishl, 22, []), (.goto 4, 25, [(0, 26)])]
def b_X11_allTiles_25 : List QE := [(.iconst 0, 26, [])]
def b_X11_allTiles_26 : List QE := [(.ior, 27, []), (.istore_n 1, 28, []), (.iinc 2 1, 31, []), (.goto (-27), 34, [(0, 4)])]
def b_X11_allTiles_34 : List QE := [(.iload_n 1, 35, []), (.ireturn, 36, [])]
def L_X11_allTiles : List (Nat × Option (List QE)) := [(0, some b_X11_allTiles_0), (4, none), (10, some b_X11_allTiles_10), (19, some b_X11_allTiles_19), (25, some b_X11_allTiles_25), (26, some b_X11_allTiles_26), (34, some b_X11_allTiles_34)]
def s_X11_allTiles : Nat → Option (List QE) := q_look L_X11_allTiles
theorem s_X11_allTiles_0 : s_X11_allTiles 0 = some b_X11_allTiles_0 := id rfl
theorem s_X11_allTiles_4 : s_X11_allTiles 4 = none := id rfl
theorem s_X11_allTiles_10 : s_X11_allTiles 10 = some b_X11_allTiles_10 := id rfl
theorem s_X11_allTiles_19 : s_X11_allTiles 19 = some b_X11_allTiles_19 := id rfl
theorem s_X11_allTiles_25 : s_X11_allTiles 25 = some b_X11_allTiles_25 := id rfl
theorem s_X11_allTiles_26 : s_X11_allTiles 26 = some b_X11_allTiles_26 := id rfl
theorem s_X11_allTiles_34 : s_X11_allTiles 34 = some b_X11_allTiles_34 := id rfl
def u_X11_allTiles : QU := ([], [], [], [], [134], [], [])
theorem o_X11_allTiles : q_skok cX11_allTiles 3 u_X11_allTiles L_X11_allTiles = true := by decide +kernel
theorem o_X11_allTiles_4 : q_ok cX11_allTiles 3 u_X11_allTiles 4 b_X11_allTiles_4 = true := by decide +kernel
theorem k_X11_allTiles : q_chk RX11 fl_X11 ld_X11 u_X11_allTiles = true := by decide +kernel
def b_X11_needOf_0 : List QE := [(.iload_n 2, 1, []), (.ifCond .eq 12, 4, [(0, 13)])]
def b_X11_needOf_4 : List QE := [(.aload_n 0, 5, []), (.getfield 27, 8, []), (.iload_n 1, 9, []), (.iaload, 10, []), (.ifCond .ne 5, 13, [(0, 15)])]
def b_X11_needOf_13 : List QE := [(.iconst 0, 14, []), (.ireturn, 15, [])]
def b_X11_needOf_15 : List QE := [(.aload_n 0, 16, []), (.getfield 27, 19, []), (.iload_n 1, 20, []), (.iaload, 21, []), (.bipush 11, 23, []), (.if_icmp .eq 25, 26, [(0, 48)])]
def b_X11_needOf_26 : List QE := [(.aload_n 0, 27, []), (.getfield 27, 30, []), (.iload_n 1, 31, []), (.iaload, 32, []), (.bipush 7, 34, []), (.if_icmp .eq 14, 37, [(0, 48)])]
def b_X11_needOf_37 : List QE := [(.aload_n 0, 38, []), (.getfield 27, 41, []), (.iload_n 1, 42, []), (.iaload, 43, []), (.bipush 12, 45, []), (.if_icmp .ne 8, 48, [(0, 53)])]
def b_X11_needOf_48 : List QE := [(.aload_n 0, 49, []), (.invokevirtual 138, 52, []), (.ireturn, 53, [])]
def b_X11_needOf_53 : List QE := [(.aload_n 0, 54, []), (.getfield 27, 57, []), (.iload_n 1, 58, []), (.iaload, 59, []), (.bipush 10, 61, []), (.if_icmp .eq 5, 64, [(0, 66)])]
def b_X11_needOf_64 : List QE := [(.iload_n 2, 65, []), (.ireturn, 66, [])]
def b_X11_needOf_66 : List QE := [(.iconst 0, 67, []), (.istore_n 3, 68, []), (.aload_n 0, 69, []), (.getfield 33, 72, []), (.iload_n 1, 73, []), (.iaload, 74, []), (.istore 4, 76, []), (.iconst 0, 77, []), (.istore 5, 79, [])]
def b_X11_needOf_79 : List QE := [(.iload 5, 81, []), (.aload_n 0, 82, []), (.getfield 13, 85, []), (.if_icmp .ge 115, 88, [(0, 200)])]
def b_X11_needOf_88 : List QE := [(.iconst 0, 89, []), (.istore 6, 91, [])]
def b_X11_needOf_91 : List QE := [(.iload 6, 93, []), (.aload_n 0, 94, []), (.getfield 7, 97, []), (.if_icmp .ge 97, 100, [(0, 194)])]
def b_X11_needOf_100 : List QE := [(.iload 5, 102, []), (.iload 4, 104, []), (.isub, 105, []), (.istore 7, 107, [])]
def b_X11_needOf_107 : List QE := [(.iload 7, 109, []), (.iload 5, 111, []), (.iload 4, 113, []), (.iadd, 114, []), (.if_icmp .gt 74, 117, [(0, 188)])]
def b_X11_needOf_117 : List QE := [(.iload_n 2, 118, []), (.iload 6, 120, []), (.iload 5, 122, []), (.invokestatic 121, 125, []), (.ishr, 126, []), (.iconst 1, 127, []), (.iand, 128, []), (.iconst 1, 129, []), (.if_icmp .ne 59, 132, [(0, 188)])]
def b_X11_needOf_132 : List QE := [(.iload 6, 134, []), (.iload 4, 136, []), (.isub, 137, []), (.istore 8, 139, [])]
def b_X11_needOf_139 : List QE := [(.iload 8, 141, []), (.iload 6, 143, []), (.iload 4, 145, []), (.iadd, 146, []), (.if_icmp .gt 36, 149, [(0, 182)])]
def b_X11_needOf_149 : List QE := [(.iload_n 3, 150, []), (.aload_n 0, 151, []), (.iload 8, 153, []), (.iload 7, 155, []), (.invokevirtual 113, 158, []), (.ifCond .eq 15, 161, [(0, 173)])]
def b_X11_needOf_161 : List QE := [(.iconst 1, 162, []), (.iload 8, 164, []), (.iload 7, 166, []), (.invokestatic 121, 169, []), (.ishl, 170, []), (.goto 4, 173, [(0, 174)])]
def b_X11_needOf_173 : List QE := [(.iconst 0, 174, [])]
def b_X11_needOf_174 : List QE := [(.ior, 175, []), (.istore_n 3, 176, []), (.iinc 8 1, 179, []), (.goto (-40), 182, [(0, 139)])]
def b_X11_needOf_182 : List QE := [(.iinc 7 1, 185, []), (.goto (-78), 188, [(0, 107)])]
def b_X11_needOf_188 : List QE := [(.iinc 6 1, 191, []), (.goto (-100), 194, [(0, 91)])]
def b_X11_needOf_194 : List QE := [(.iinc 5 1, 197, []), (.goto (-118), 200, [(0, 79)])]
def b_X11_needOf_200 : List QE := [(.iload_n 3, 201, []), (.ireturn, 202, [])]
def L_X11_needOf : List (Nat × Option (List QE)) := [(0, some b_X11_needOf_0), (4, some b_X11_needOf_4), (13, some b_X11_needOf_13), (15, some b_X11_needOf_15), (26, some b_X11_needOf_26), (37, some b_X11_needOf_37), (48, some b_X11_needOf_48), (53, some b_X11_needOf_53), (64, some b_X11_needOf_64), (66, some b_X11_needOf_66), (79, none), (88, some b_X11_needOf_88), (91, none), (100, some b_X11_needOf_100), (107, none), (117, some b_X11_needOf_117), (132, some b_X11_needOf_132), (139, none), (149, some b_X11_needOf_149), (161, some b_X11_needOf_161), (173, some b_X11_needOf_173), (174, some b_X11_needOf_174), (182, some b_X11_needOf_182), (188, some b_X11_needOf_188), (194, some b_X11_needOf_194), (200, some b_X11_needOf_200)]
def s_X11_needOf : Nat → Option (List QE) := q_look L_X11_needOf
theorem s_X11_needOf_0 : s_X11_needOf 0 = some b_X11_needOf_0 := id rfl
theorem s_X11_needOf_4 : s_X11_needOf 4 = some b_X11_needOf_4 := id rfl
theorem s_X11_needOf_13 : s_X11_needOf 13 = some b_X11_needOf_13 := id rfl
theorem s_X11_needOf_15 : s_X11_needOf 15 = some b_X11_needOf_15 := id rfl
theorem s_X11_needOf_26 : s_X11_needOf 26 = some b_X11_needOf_26 := id rfl
theorem s_X11_needOf_37 : s_X11_needOf 37 = some b_X11_needOf_37 := id rfl
theorem s_X11_needOf_48 : s_X11_needOf 48 = some b_X11_needOf_48 := id rfl
theorem s_X11_needOf_53 : s_X11_needOf 53 = some b_X11_needOf_53 := id rfl
theorem s_X11_needOf_64 : s_X11_needOf 64 = some b_X11_needOf_64 := id rfl
theorem s_X11_needOf_66 : s_X11_needOf 66 = some b_X11_needOf_66 := id rfl
theorem s_X11_needOf_79 : s_X11_needOf 79 = none := id rfl
theorem s_X11_needOf_88 : s_X11_needOf 88 = some b_X11_needOf_88 := id rfl
theorem s_X11_needOf_91 : s_X11_needOf 91 = none := id rfl
theorem s_X11_needOf_100 : s_X11_needOf 100 = some b_X11_needOf_100 := id rfl
theorem s_X11_needOf_107 : s_X11_needOf 107 = none := id rfl
theorem s_X11_needOf_117 : s_X11_needOf 117 = some b_X11_needOf_117 := id rfl
theorem s_X11_needOf_132 : s_X11_needOf 132 = some b_X11_needOf_132 := id rfl
theorem s_X11_needOf_139 : s_X11_needOf 139 = none := id rfl
theorem s_X11_needOf_149 : s_X11_needOf 149 = some b_X11_needOf_149 := id rfl
theorem s_X11_needOf_161 : s_X11_needOf 161 = some b_X11_needOf_161 := id rfl
theorem s_X11_needOf_173 : s_X11_needOf 173 = some b_X11_needOf_173 := id rfl
theorem s_X11_needOf_174 : s_X11_needOf 174 = some b_X11_needOf_174 := id rfl
theorem s_X11_needOf_182 : s_X11_needOf 182 = some b_X11_needOf_182 := id rfl
theorem s_X11_needOf_188 : s_X11_needOf 188 = some b_X11_needOf_188 := id rfl
theorem s_X11_needOf_194 : s_X11_needOf 194 = some b_X11_needOf_194 := id rfl
theorem s_X11_needOf_200 : s_X11_needOf 200 = some b_X11_needOf_200 := id rfl
def u_X11_needOf : QU := ([27, 33, 13, 7], [], [], [], [138, 113], [121], [])
theorem o_X11_needOf : q_skok cX11_needOf 9 u_X11_needOf L_X11_needOf = true := by decide +kernel
theorem o_X11_needOf_107 : q_ok cX11_needOf 9 u_X11_needOf 107 b_X11_needOf_107 = true := by decide +kernel
theorem o_X11_needOf_91 : q_ok cX11_needOf 9 u_X11_needOf 91 b_X11_needOf_91 = true := by decide +kernel
theorem o_X11_needOf_139 : q_ok cX11_needOf 9 u_X11_needOf 139 b_X11_needOf_139 = true := by decide +kernel
theorem o_X11_needOf_79 : q_ok cX11_needOf 9 u_X11_needOf 79 b_X11_needOf_79 = true := by decide +kernel
theorem k_X11_needOf : q_chk RX11 fl_X11 ld_X11 u_X11_needOf = true := by decide +kernel
def b_X11_findNeeds_0 : List QE := [(.iconst 0, 1, []), (.istore_n 3, 2, [])]
def b_X11_findNeeds_2 : List QE := [(.iload_n 3, 3, []), (.bipush 10, 5, []), (.if_icmp .ge 16, 8, [(0, 21)])]
def b_X11_findNeeds_8 : List QE := [(.aload_n 0, 9, []), (.getfield 45, 12, []), (.iload_n 3, 13, []), (.iconst 0, 14, []), (.iastore, 15, []), (.iinc 3 1, 18, []), (.goto (-16), 21, [(0, 2)])]
def b_X11_findNeeds_21 : List QE := [(.aload_n 0, 22, []), (.getfield 45, 25, []), (.iload_n 1, 26, []), (.iconst 1, 27, []), (.iload_n 2, 28, []), (.ishl, 29, []), (.iastore, 30, []), (.iload_n 1, 31, []), (.istore_n 3, 32, [])]
def b_X11_findNeeds_32 : List QE := [(.iload_n 3, 33, []), (.ifCond .lt 63, 36, [(0, 96)])]
def b_X11_findNeeds_36 : List QE := [(.aload_n 0, 37, []), (.iload_n 3, 38, []), (.aload_n 0, 39, []), (.getfield 45, 42, []), (.iload_n 3, 43, []), (.iaload, 44, []), (.invokevirtual 142, 47, []), (.istore 4, 49, []), (.iconst 0, 50, []), (.istore 5, 52, [])]
def b_X11_findNeeds_52 : List QE := [(.iload 5, 54, []), (.aload_n 0, 55, []), (.getfield 39, 58, []), (.iload_n 3, 59, []), (.iaload, 60, []), (.if_icmp .ge 30, 63, [(0, 90)])]
def b_X11_findNeeds_63 : List QE := [(.aload_n 0, 64, []), (.getfield 45, 67, []), (.aload_n 0, 68, []), (.getfield 36, 71, []), (.iconst 3, 72, []), (.iload_n 3, 73, []), (.imul, 74, []), (.iload 5, 76, []), (.iadd, 77, []), (.iaload, 78, []), (.dup2, 79, []), (.iaload, 80, []), (.iload 4, 82, []), (.ior, 83, []), (.iastore, 84, []), (.iinc 5 1, 87, []), (.goto (-35), 90, [(0, 52)])]
def b_X11_findNeeds_90 : List QE := [(.iinc 3 (-1), 93, []), (.goto (-61), 96, [(0, 32)])]
def b_X11_findNeeds_96 : List QE := [(.return_, 97, [])]
def L_X11_findNeeds : List (Nat × Option (List QE)) := [(0, some b_X11_findNeeds_0), (2, none), (8, some b_X11_findNeeds_8), (21, some b_X11_findNeeds_21), (32, none), (36, some b_X11_findNeeds_36), (52, none), (63, some b_X11_findNeeds_63), (90, some b_X11_findNeeds_90), (96, some b_X11_findNeeds_96)]
def s_X11_findNeeds : Nat → Option (List QE) := q_look L_X11_findNeeds
theorem s_X11_findNeeds_0 : s_X11_findNeeds 0 = some b_X11_findNeeds_0 := id rfl
theorem s_X11_findNeeds_2 : s_X11_findNeeds 2 = none := id rfl
theorem s_X11_findNeeds_8 : s_X11_findNeeds 8 = some b_X11_findNeeds_8 := id rfl
theorem s_X11_findNeeds_21 : s_X11_findNeeds 21 = some b_X11_findNeeds_21 := id rfl
theorem s_X11_findNeeds_32 : s_X11_findNeeds 32 = none := id rfl
theorem s_X11_findNeeds_36 : s_X11_findNeeds 36 = some b_X11_findNeeds_36 := id rfl
theorem s_X11_findNeeds_52 : s_X11_findNeeds 52 = none := id rfl
theorem s_X11_findNeeds_63 : s_X11_findNeeds 63 = some b_X11_findNeeds_63 := id rfl
theorem s_X11_findNeeds_90 : s_X11_findNeeds 90 = some b_X11_findNeeds_90 := id rfl
theorem s_X11_findNeeds_96 : s_X11_findNeeds 96 = some b_X11_findNeeds_96 := id rfl
def u_X11_findNeeds : QU := ([45, 39, 36], [], [], [], [142], [], [])
theorem o_X11_findNeeds : q_skok cX11_findNeeds 6 u_X11_findNeeds L_X11_findNeeds = true := by decide +kernel
theorem o_X11_findNeeds_32 : q_ok cX11_findNeeds 6 u_X11_findNeeds 32 b_X11_findNeeds_32 = true := by decide +kernel
theorem o_X11_findNeeds_2 : q_ok cX11_findNeeds 6 u_X11_findNeeds 2 b_X11_findNeeds_2 = true := by decide +kernel
theorem o_X11_findNeeds_52 : q_ok cX11_findNeeds 6 u_X11_findNeeds 52 b_X11_findNeeds_52 = true := by decide +kernel
theorem k_X11_findNeeds : q_chk RX11 fl_X11 ld_X11 u_X11_findNeeds = true := by decide +kernel
def b_X11_fromOf_0 : List QE := [(.aload_n 0, 1, []), (.iload_n 1, 2, []), (.iload_n 2, 3, []), (.invokevirtual 145, 6, []), (.iconst 0, 7, []), (.istore 4, 9, []), (.iconst 0, 10, []), (.istore 5, 12, [])]
def b_X11_fromOf_12 : List QE := [(.iload 5, 14, []), (.iload_n 1, 15, []), (.if_icmp .gt 46, 18, [(0, 61)])]
def b_X11_fromOf_18 : List QE := [(.iload 4, 20, []), (.aload_n 0, 21, []), (.getfield 27, 24, []), (.iload 5, 26, []), (.iaload, 27, []), (.ifCond .ne 24, 30, [(0, 51)])]
def b_X11_fromOf_30 : List QE := [(.aload_n 0, 31, []), (.getfield 33, 34, []), (.iload 5, 36, []), (.iaload, 37, []), (.iload_n 3, 38, []), (.if_icmp .ne 13, 41, [(0, 51)])]
def b_X11_fromOf_41 : List QE := [(.aload_n 0, 42, []), (.getfield 45, 45, []), (.iload 5, 47, []), (.iaload, 48, []), (.goto 4, 51, [(0, 52)])]
def b_X11_fromOf_51 : List QE := [(.iconst 0, 52, [])]
def b_X11_fromOf_52 : List QE := [(.ior, 53, []), (.istore 4, 55, []), (.iinc 5 1, 58, []), (.goto (-46), 61, [(0, 12)])]
def b_X11_fromOf_61 : List QE := [(.iload 4, 63, []), (.ireturn, 64, [])]
def L_X11_fromOf : List (Nat × Option (List QE)) := [(0, some b_X11_fromOf_0), (12, none), (18, some b_X11_fromOf_18), (30, some b_X11_fromOf_30), (41, some b_X11_fromOf_41), (51, some b_X11_fromOf_51), (52, some b_X11_fromOf_52), (61, some b_X11_fromOf_61)]
def s_X11_fromOf : Nat → Option (List QE) := q_look L_X11_fromOf
theorem s_X11_fromOf_0 : s_X11_fromOf 0 = some b_X11_fromOf_0 := id rfl
theorem s_X11_fromOf_12 : s_X11_fromOf 12 = none := id rfl
theorem s_X11_fromOf_18 : s_X11_fromOf 18 = some b_X11_fromOf_18 := id rfl
theorem s_X11_fromOf_30 : s_X11_fromOf 30 = some b_X11_fromOf_30 := id rfl
theorem s_X11_fromOf_41 : s_X11_fromOf 41 = some b_X11_fromOf_41 := id rfl
theorem s_X11_fromOf_51 : s_X11_fromOf 51 = some b_X11_fromOf_51 := id rfl
theorem s_X11_fromOf_52 : s_X11_fromOf 52 = some b_X11_fromOf_52 := id rfl
theorem s_X11_fromOf_61 : s_X11_fromOf 61 = some b_X11_fromOf_61 := id rfl
def u_X11_fromOf : QU := ([27, 33, 45], [], [], [], [145], [], [])
theorem o_X11_fromOf : q_skok cX11_fromOf 6 u_X11_fromOf L_X11_fromOf = true := by decide +kernel
theorem o_X11_fromOf_12 : q_ok cX11_fromOf 6 u_X11_fromOf 12 b_X11_fromOf_12 = true := by decide +kernel
theorem k_X11_fromOf : q_chk RX11 fl_X11 ld_X11 u_X11_fromOf = true := by decide +kernel
def b_X11_from_0 : List QE := [(.aload_n 0, 1, []), (.iconst 0, 2, []), (.putfield 85, 5, []), (.aload_n 0, 6, []), (.iload_n 1, 7, []), (.invokevirtual 149, 10, []), (.ifCond .eq 33, 13, [(0, 43)])]
def b_X11_from_13 : List QE := [(.aload_n 0, 14, []), (.iload_n 2, 15, []), (.invokevirtual 134, 18, []), (.ifCond .eq 25, 21, [(0, 43)])]
def b_X11_from_21 : List QE := [(.iload_n 3, 22, []), (.i2l, 23, []), (.lconst 0, 24, []), (.ldc2_w 107, 27, []), (.invokestatic 95, 30, []), (.ifCond .eq 13, 33, [(0, 43)])]
def b_X11_from_33 : List QE := [(.aload_n 0, 34, []), (.iload_n 1, 35, []), (.iload_n 2, 36, []), (.iload_n 3, 37, []), (.invokevirtual 128, 40, []), (.goto 4, 43, [(0, 44)])]
def b_X11_from_43 : List QE := [(.iconst (-1), 44, [])]
def b_X11_from_44 : List QE := [(.ireturn, 45, [])]
def L_X11_from : List (Nat × Option (List QE)) := [(0, some b_X11_from_0), (13, some b_X11_from_13), (21, some b_X11_from_21), (33, some b_X11_from_33), (43, some b_X11_from_43), (44, some b_X11_from_44)]
def s_X11_from : Nat → Option (List QE) := q_look L_X11_from
theorem s_X11_from_0 : s_X11_from 0 = some b_X11_from_0 := id rfl
theorem s_X11_from_13 : s_X11_from 13 = some b_X11_from_13 := id rfl
theorem s_X11_from_21 : s_X11_from 21 = some b_X11_from_21 := id rfl
theorem s_X11_from_33 : s_X11_from 33 = some b_X11_from_33 := id rfl
theorem s_X11_from_43 : s_X11_from 43 = some b_X11_from_43 := id rfl
theorem s_X11_from_44 : s_X11_from 44 = some b_X11_from_44 := id rfl
def u_X11_from : QU := ([85], [85], [107], [], [149, 134, 128], [95], [])
theorem o_X11_from : q_skok cX11_from 4 u_X11_from L_X11_from = true := by decide +kernel
theorem k_X11_from : q_chk RX11 fl_X11 ld_X11 u_X11_from = true := by decide +kernel
def b_X11_isBoard_0 : List QE := [(.iload_n 1, 1, []), (.i2l, 2, []), (.lconst 0, 3, []), (.aload_n 0, 4, []), (.getfield 125, 7, []), (.i2l, 8, []), (.lconst 1, 9, []), (.lsub, 10, []), (.invokestatic 95, 13, []), (.ireturn, 14, [])]
def L_X11_isBoard : List (Nat × Option (List QE)) := [(0, some b_X11_isBoard_0)]
def s_X11_isBoard : Nat → Option (List QE) := q_look L_X11_isBoard
theorem s_X11_isBoard_0 : s_X11_isBoard 0 = some b_X11_isBoard_0 := id rfl
def u_X11_isBoard : QU := ([125], [], [], [], [], [95], [])
theorem o_X11_isBoard : q_skok cX11_isBoard 2 u_X11_isBoard L_X11_isBoard = true := by decide +kernel
theorem k_X11_isBoard : q_chk RX11 fl_X11 ld_X11 u_X11_isBoard = true := by decide +kernel
def b_X11_fresh_0 : List QE := [(.aload_n 0, 1, []), (.iconst 0, 2, []), (.putfield 85, 5, []), (.aload_n 0, 6, []), (.iload_n 1, 7, []), (.invokevirtual 149, 10, []), (.ifCond .eq 33, 13, [(0, 43)])]
def b_X11_fresh_13 : List QE := [(.aload_n 0, 14, []), (.iload_n 2, 15, []), (.invokevirtual 134, 18, []), (.ifCond .eq 25, 21, [(0, 43)])]
def b_X11_fresh_21 : List QE := [(.aload_n 0, 22, []), (.getfield 42, 25, []), (.bipush 9, 27, []), (.iload_n 1, 28, []), (.imul, 29, []), (.iload_n 2, 30, []), (.iadd, 31, []), (.baload, 32, []), (.ifCond .eq 7, 35, [(0, 39)])]
def b_X11_fresh_35 : List QE := [(.iconst 1, 36, []), (.goto 8, 39, [(0, 44)])]
def b_X11_fresh_39 : List QE := [(.iconst 0, 40, []), (.goto 4, 43, [(0, 44)])]
def b_X11_fresh_43 : List QE := [(.iconst (-1), 44, [])]
def b_X11_fresh_44 : List QE := [(.ireturn, 45, [])]
def L_X11_fresh : List (Nat × Option (List QE)) := [(0, some b_X11_fresh_0), (13, some b_X11_fresh_13), (21, some b_X11_fresh_21), (35, some b_X11_fresh_35), (39, some b_X11_fresh_39), (43, some b_X11_fresh_43), (44, some b_X11_fresh_44)]
def s_X11_fresh : Nat → Option (List QE) := q_look L_X11_fresh
theorem s_X11_fresh_0 : s_X11_fresh 0 = some b_X11_fresh_0 := id rfl
theorem s_X11_fresh_13 : s_X11_fresh 13 = some b_X11_fresh_13 := id rfl
theorem s_X11_fresh_21 : s_X11_fresh 21 = some b_X11_fresh_21 := id rfl
theorem s_X11_fresh_35 : s_X11_fresh 35 = some b_X11_fresh_35 := id rfl
theorem s_X11_fresh_39 : s_X11_fresh 39 = some b_X11_fresh_39 := id rfl
theorem s_X11_fresh_43 : s_X11_fresh 43 = some b_X11_fresh_43 := id rfl
theorem s_X11_fresh_44 : s_X11_fresh 44 = some b_X11_fresh_44 := id rfl
def u_X11_fresh : QU := ([85, 42], [85], [], [], [149, 134], [], [])
theorem o_X11_fresh : q_skok cX11_fresh 3 u_X11_fresh L_X11_fresh = true := by decide +kernel
theorem k_X11_fresh : q_chk RX11 fl_X11 ld_X11 u_X11_fresh = true := by decide +kernel
def b_X11_made_0 : List QE := [(.aload_n 0, 1, []), (.iconst 0, 2, []), (.putfield 85, 5, []), (.aload_n 0, 6, []), (.getfield 152, 9, []), (.ireturn, 10, [])]
def L_X11_made : List (Nat × Option (List QE)) := [(0, some b_X11_made_0)]
def s_X11_made : Nat → Option (List QE) := q_look L_X11_made
theorem s_X11_made_0 : s_X11_made 0 = some b_X11_made_0 := id rfl
def u_X11_made : QU := ([85, 152], [85], [], [], [], [], [])
theorem o_X11_made : q_skok cX11_made 1 u_X11_made L_X11_made = true := by decide +kernel
theorem k_X11_made : q_chk RX11 fl_X11 ld_X11 u_X11_made = true := by decide +kernel
def b_X11_begin_0 : List QE := [(.aload_n 0, 1, []), (.iconst 0, 2, []), (.putfield 155, 5, []), (.aload_n 0, 6, []), (.lconst 0, 7, []), (.putfield 158, 10, []), (.aload_n 0, 11, []), (.lconst 0, 12, []), (.putfield 162, 15, []), (.aload_n 0, 16, []), (.lconst 0, 17, []), (.putfield 165, 20, []), (.return_, 21, [])]
def L_X11_begin : List (Nat × Option (List QE)) := [(0, some b_X11_begin_0)]
def s_X11_begin : Nat → Option (List QE) := q_look L_X11_begin
theorem s_X11_begin_0 : s_X11_begin 0 = some b_X11_begin_0 := id rfl
def u_X11_begin : QU := ([155, 158, 162, 165], [155, 158, 162, 165], [], [], [], [], [])
theorem o_X11_begin : q_skok cX11_begin 1 u_X11_begin L_X11_begin = true := by decide +kernel
theorem k_X11_begin : q_chk RX11 fl_X11 ld_X11 u_X11_begin = true := by decide +kernel
def b_X11_take_0 : List QE := [(.iload_n 1, 1, []), (.ldc 91, 3, []), (.if_icmp .ne 4, 6, [(0, 7)])]
def b_X11_take_6 : List QE := [(.return_, 7, [])]
def b_X11_take_7 : List QE := [(.aload_n 0, 8, []), (.aload_n 0, 9, []), (.getfield 155, 12, []), (.ifCond .eq 13, 15, [(0, 25)])]
def b_X11_take_15 : List QE := [(.iload_n 1, 16, []), (.i2l, 17, []), (.aload_n 0, 18, []), (.getfield 162, 21, []), (.lcmp, 22, []), (.ifCond .ge 8, 25, [(0, 30)])]
def b_X11_take_25 : List QE := [(.iload_n 1, 26, []), (.i2l, 27, []), (.goto 7, 30, [(0, 34)])]
def b_X11_take_30 : List QE := [(.aload_n 0, 31, []), (.getfield 162, 34, [])]
def b_X11_take_34 : List QE := [(.putfield 162, 37, []), (.aload_n 0, 38, []), (.aload_n 0, 39, []), (.getfield 155, 42, []), (.ifCond .eq 13, 45, [(0, 55)])]
def b_X11_take_45 : List QE := [(.iload_n 1, 46, []), (.i2l, 47, []), (.aload_n 0, 48, []), (.getfield 165, 51, []), (.lcmp, 52, []), (.ifCond .le 8, 55, [(0, 60)])]
def b_X11_take_55 : List QE := [(.iload_n 1, 56, []), (.i2l, 57, []), (.goto 7, 60, [(0, 64)])]
def b_X11_take_60 : List QE := [(.aload_n 0, 61, []), (.getfield 165, 64, [])]
def b_X11_take_64 : List QE := [(.putfield 165, 67, []), (.aload_n 0, 68, []), (.dup, 69, []), (.getfield 158, 72, []), (.iload_n 1, 73, []), (.i2l, 74, []), (.ladd, 75, []), (.putfield 158, 78, []), (.aload_n 0, 79, []), (.dup, 80, []), (.getfield 155, 83, []), (.iconst 1, 84, []), (.iadd, 85, []), (.putfield 155, 88, []), (.return_, 89, [])]
def L_X11_take : List (Nat × Option (List QE)) := [(0, some b_X11_take_0), (6, some b_X11_take_6), (7, some b_X11_take_7), (15, some b_X11_take_15), (25, some b_X11_take_25), (30, some b_X11_take_30), (34, some b_X11_take_34), (45, some b_X11_take_45), (55, some b_X11_take_55), (60, some b_X11_take_60), (64, some b_X11_take_64)]
def s_X11_take : Nat → Option (List QE) := q_look L_X11_take
theorem s_X11_take_0 : s_X11_take 0 = some b_X11_take_0 := id rfl
theorem s_X11_take_6 : s_X11_take 6 = some b_X11_take_6 := id rfl
theorem s_X11_take_7 : s_X11_take 7 = some b_X11_take_7 := id rfl
theorem s_X11_take_15 : s_X11_take 15 = some b_X11_take_15 := id rfl
theorem s_X11_take_25 : s_X11_take 25 = some b_X11_take_25 := id rfl
theorem s_X11_take_30 : s_X11_take 30 = some b_X11_take_30 := id rfl
theorem s_X11_take_34 : s_X11_take 34 = some b_X11_take_34 := id rfl
theorem s_X11_take_45 : s_X11_take 45 = some b_X11_take_45 := id rfl
theorem s_X11_take_55 : s_X11_take 55 = some b_X11_take_55 := id rfl
theorem s_X11_take_60 : s_X11_take 60 = some b_X11_take_60 := id rfl
theorem s_X11_take_64 : s_X11_take 64 = some b_X11_take_64 := id rfl
def u_X11_take : QU := ([155, 162, 165, 158], [162, 165, 158, 155], [91], [], [], [], [])
theorem o_X11_take : q_skok cX11_take 2 u_X11_take L_X11_take = true := by decide +kernel
theorem k_X11_take : q_chk RX11 fl_X11 ld_X11 u_X11_take = true := by decide +kernel
def b_X11_kept_0 : List QE := [(.lload_n 0, 1, []), (.ldc2_w 168, 4, []), (.ldc2_w 170, 7, []), (.invokestatic 95, 10, []), (.ifCond .eq 8, 13, [(0, 18)])]
def b_X11_kept_13 : List QE := [(.lload_n 0, 14, []), (.l2i, 15, []), (.goto 5, 18, [(0, 20)])]
def b_X11_kept_18 : List QE := [(.ldc 91, 20, [])]
def b_X11_kept_20 : List QE := [(.ireturn, 21, [])]
def L_X11_kept : List (Nat × Option (List QE)) := [(0, some b_X11_kept_0), (13, some b_X11_kept_13), (18, some b_X11_kept_18), (20, some b_X11_kept_20)]
def s_X11_kept : Nat → Option (List QE) := q_look L_X11_kept
theorem s_X11_kept_0 : s_X11_kept 0 = some b_X11_kept_0 := id rfl
theorem s_X11_kept_13 : s_X11_kept 13 = some b_X11_kept_13 := id rfl
theorem s_X11_kept_18 : s_X11_kept 18 = some b_X11_kept_18 := id rfl
theorem s_X11_kept_20 : s_X11_kept 20 = some b_X11_kept_20 := id rfl
def u_X11_kept : QU := ([], [], [168, 170, 91], [], [], [95], [])
theorem o_X11_kept : q_skok cX11_kept 2 u_X11_kept L_X11_kept = true := by decide +kernel
theorem k_X11_kept : q_chk RX11 fl_X11 ld_X11 u_X11_kept = true := by decide +kernel
def b_X11_taken_0 : List QE := [(.iload_n 1, 1, []), (.bipush 14, 3, []), (.if_icmp .ne 8, 6, [(0, 11)])]
def b_X11_taken_6 : List QE := [(.aload_n 0, 7, []), (.getfield 155, 10, []), (.ireturn, 11, [])]
def b_X11_taken_11 : List QE := [(.aload_n 0, 12, []), (.getfield 155, 15, []), (.ifCond .ne 8, 18, [(0, 23)])]
def b_X11_taken_18 : List QE := [(.ldc 91, 20, []), (.goto 35, 23, [(0, 55)])]
def b_X11_taken_23 : List QE := [(.iload_n 1, 24, []), (.bipush 13, 26, []), (.if_icmp .ne 10, 29, [(0, 36)])]
def b_X11_taken_29 : List QE := [(.aload_n 0, 30, []), (.getfield 158, 33, []), (.goto 19, 36, [(0, 52)])]
def b_X11_taken_36 : List QE := [(.iload_n 1, 37, []), (.iconst 4, 38, []), (.if_icmp .ne 10, 41, [(0, 48)])]
def b_X11_taken_41 : List QE := [(.aload_n 0, 42, []), (.getfield 162, 45, []), (.goto 7, 48, [(0, 52)])]
def b_X11_taken_48 : List QE := [(.aload_n 0, 49, []), (.getfield 165, 52, [])]
def b_X11_taken_52 : List QE := [(.invokestatic 172, 55, [])]
def b_X11_taken_55 : List QE := [(.ireturn, 56, [])]
def L_X11_taken : List (Nat × Option (List QE)) := [(0, some b_X11_taken_0), (6, some b_X11_taken_6), (11, some b_X11_taken_11), (18, some b_X11_taken_18), (23, some b_X11_taken_23), (29, some b_X11_taken_29), (36, some b_X11_taken_36), (41, some b_X11_taken_41), (48, some b_X11_taken_48), (52, some b_X11_taken_52), (55, some b_X11_taken_55)]
def s_X11_taken : Nat → Option (List QE) := q_look L_X11_taken
theorem s_X11_taken_0 : s_X11_taken 0 = some b_X11_taken_0 := id rfl
theorem s_X11_taken_6 : s_X11_taken 6 = some b_X11_taken_6 := id rfl
theorem s_X11_taken_11 : s_X11_taken 11 = some b_X11_taken_11 := id rfl
theorem s_X11_taken_18 : s_X11_taken 18 = some b_X11_taken_18 := id rfl
theorem s_X11_taken_23 : s_X11_taken 23 = some b_X11_taken_23 := id rfl
theorem s_X11_taken_29 : s_X11_taken 29 = some b_X11_taken_29 := id rfl
theorem s_X11_taken_36 : s_X11_taken 36 = some b_X11_taken_36 := id rfl
theorem s_X11_taken_41 : s_X11_taken 41 = some b_X11_taken_41 := id rfl
theorem s_X11_taken_48 : s_X11_taken 48 = some b_X11_taken_48 := id rfl
theorem s_X11_taken_52 : s_X11_taken 52 = some b_X11_taken_52 := id rfl
theorem s_X11_taken_55 : s_X11_taken 55 = some b_X11_taken_55 := id rfl
def u_X11_taken : QU := ([155, 158, 162, 165], [], [91], [], [], [172], [])
theorem o_X11_taken : q_skok cX11_taken 2 u_X11_taken L_X11_taken = true := by decide +kernel
theorem k_X11_taken : q_chk RX11 fl_X11 ld_X11 u_X11_taken = true := by decide +kernel
def b_X11_at_0 : List QE := [(.aload_n 0, 1, []), (.getfield 48, 4, []), (.sipush 144, 7, []), (.iload_n 1, 8, []), (.imul, 9, []), (.bipush 12, 11, []), (.iload_n 3, 12, []), (.imul, 13, []), (.iadd, 14, []), (.iload_n 2, 15, []), (.iadd, 16, []), (.iaload, 17, []), (.ireturn, 18, [])]
def L_X11_at : List (Nat × Option (List QE)) := [(0, some b_X11_at_0)]
def s_X11_at : Nat → Option (List QE) := q_look L_X11_at
theorem s_X11_at_0 : s_X11_at 0 = some b_X11_at_0 := id rfl
def u_X11_at : QU := ([48], [], [], [], [], [], [])
theorem o_X11_at : q_skok cX11_at 4 u_X11_at L_X11_at = true := by decide +kernel
theorem k_X11_at : q_chk RX11 fl_X11 ld_X11 u_X11_at = true := by decide +kernel
def b_X11_set_0 : List QE := [(.aload_n 0, 1, []), (.getfield 48, 4, []), (.sipush 144, 7, []), (.iload_n 1, 8, []), (.imul, 9, []), (.bipush 12, 11, []), (.iload_n 3, 12, []), (.imul, 13, []), (.iadd, 14, []), (.iload_n 2, 15, []), (.iadd, 16, []), (.iload 4, 18, []), (.iastore, 19, []), (.return_, 20, [])]
def L_X11_set : List (Nat × Option (List QE)) := [(0, some b_X11_set_0)]
def s_X11_set : Nat → Option (List QE) := q_look L_X11_set
theorem s_X11_set_0 : s_X11_set 0 = some b_X11_set_0 := id rfl
def u_X11_set : QU := ([48], [], [], [], [], [], [])
theorem o_X11_set : q_skok cX11_set 5 u_X11_set L_X11_set = true := by decide +kernel
theorem k_X11_set : q_chk RX11 fl_X11 ld_X11 u_X11_set = true := by decide +kernel
def b_X11_cellOf_0 : List QE := [(.iload_n 2, 1, []), (.ldc 91, 3, []), (.if_icmp .eq 9, 6, [(0, 12)])]
def b_X11_cellOf_6 : List QE := [(.iload_n 3, 7, []), (.ldc 91, 9, []), (.if_icmp .ne 6, 12, [(0, 15)])]
def b_X11_cellOf_12 : List QE := [(.ldc 91, 14, []), (.ireturn, 15, [])]
def b_X11_cellOf_15 : List QE := [(.iload_n 1, 16, []), (.tableswitch 85 1 5 #[36, 45, 54, 63, 74], 52, [(1, 52), (2, 61), (3, 70), (4, 79), (5, 90), (0, 101)])]
def b_X11_cellOf_52 : List QE := [(.iload_n 2, 53, []), (.i2l, 54, []), (.iload_n 3, 55, []), (.i2l, 56, []), (.ladd, 57, []), (.invokestatic 172, 60, []), (.ireturn, 61, [])]
def b_X11_cellOf_61 : List QE := [(.iload_n 2, 62, []), (.i2l, 63, []), (.iload_n 3, 64, []), (.i2l, 65, []), (.lsub, 66, []), (.invokestatic 172, 69, []), (.ireturn, 70, [])]
def b_X11_cellOf_70 : List QE := [(.iload_n 2, 71, []), (.i2l, 72, []), (.iload_n 3, 73, []), (.i2l, 74, []), (.lmul, 75, []), (.invokestatic 172, 78, []), (.ireturn, 79, [])]
def b_X11_cellOf_79 : List QE := [(.iload_n 2, 80, []), (.iload_n 3, 81, []), (.if_icmp .ge 7, 84, [(0, 88)])]
def b_X11_cellOf_84 : List QE := [(.iload_n 2, 85, []), (.goto 4, 88, [(0, 89)])]
def b_X11_cellOf_88 : List QE := [(.iload_n 3, 89, [])]
def b_X11_cellOf_89 : List QE := [(.ireturn, 90, [])]
def b_X11_cellOf_90 : List QE := [(.iload_n 2, 91, []), (.iload_n 3, 92, []), (.if_icmp .le 7, 95, [(0, 99)])]
def b_X11_cellOf_95 : List QE := [(.iload_n 2, 96, []), (.goto 4, 99, [(0, 100)])]
def b_X11_cellOf_99 : List QE := [(.iload_n 3, 100, [])]
def b_X11_cellOf_100 : List QE := [(.ireturn, 101, [])]
def b_X11_cellOf_101 : List QE := [(.iload_n 3, 102, []), (.ifCond .le 7, 105, [(0, 109)])]
def b_X11_cellOf_105 : List QE := [(.iload_n 2, 106, []), (.goto 5, 109, [(0, 111)])]
def b_X11_cellOf_109 : List QE := [(.ldc 91, 111, [])]
def b_X11_cellOf_111 : List QE := [(.ireturn, 112, [])]
def L_X11_cellOf : List (Nat × Option (List QE)) := [(0, some b_X11_cellOf_0), (6, some b_X11_cellOf_6), (12, some b_X11_cellOf_12), (15, some b_X11_cellOf_15), (52, some b_X11_cellOf_52), (61, some b_X11_cellOf_61), (70, some b_X11_cellOf_70), (79, some b_X11_cellOf_79), (84, some b_X11_cellOf_84), (88, some b_X11_cellOf_88), (89, some b_X11_cellOf_89), (90, some b_X11_cellOf_90), (95, some b_X11_cellOf_95), (99, some b_X11_cellOf_99), (100, some b_X11_cellOf_100), (101, some b_X11_cellOf_101), (105, some b_X11_cellOf_105), (109, some b_X11_cellOf_109), (111, some b_X11_cellOf_111)]
def s_X11_cellOf : Nat → Option (List QE) := q_look L_X11_cellOf
theorem s_X11_cellOf_0 : s_X11_cellOf 0 = some b_X11_cellOf_0 := id rfl
theorem s_X11_cellOf_6 : s_X11_cellOf 6 = some b_X11_cellOf_6 := id rfl
theorem s_X11_cellOf_12 : s_X11_cellOf 12 = some b_X11_cellOf_12 := id rfl
theorem s_X11_cellOf_15 : s_X11_cellOf 15 = some b_X11_cellOf_15 := id rfl
theorem s_X11_cellOf_52 : s_X11_cellOf 52 = some b_X11_cellOf_52 := id rfl
theorem s_X11_cellOf_61 : s_X11_cellOf 61 = some b_X11_cellOf_61 := id rfl
theorem s_X11_cellOf_70 : s_X11_cellOf 70 = some b_X11_cellOf_70 := id rfl
theorem s_X11_cellOf_79 : s_X11_cellOf 79 = some b_X11_cellOf_79 := id rfl
theorem s_X11_cellOf_84 : s_X11_cellOf 84 = some b_X11_cellOf_84 := id rfl
theorem s_X11_cellOf_88 : s_X11_cellOf 88 = some b_X11_cellOf_88 := id rfl
theorem s_X11_cellOf_89 : s_X11_cellOf 89 = some b_X11_cellOf_89 := id rfl
theorem s_X11_cellOf_90 : s_X11_cellOf 90 = some b_X11_cellOf_90 := id rfl
theorem s_X11_cellOf_95 : s_X11_cellOf 95 = some b_X11_cellOf_95 := id rfl
theorem s_X11_cellOf_99 : s_X11_cellOf 99 = some b_X11_cellOf_99 := id rfl
theorem s_X11_cellOf_100 : s_X11_cellOf 100 = some b_X11_cellOf_100 := id rfl
theorem s_X11_cellOf_101 : s_X11_cellOf 101 = some b_X11_cellOf_101 := id rfl
theorem s_X11_cellOf_105 : s_X11_cellOf 105 = some b_X11_cellOf_105 := id rfl
theorem s_X11_cellOf_109 : s_X11_cellOf 109 = some b_X11_cellOf_109 := id rfl
theorem s_X11_cellOf_111 : s_X11_cellOf 111 = some b_X11_cellOf_111 := id rfl
def u_X11_cellOf : QU := ([], [], [91], [], [], [172], [])
theorem o_X11_cellOf : q_skok cX11_cellOf 4 u_X11_cellOf L_X11_cellOf = true := by decide +kernel
theorem k_X11_cellOf : q_chk RX11 fl_X11 ld_X11 u_X11_cellOf = true := by decide +kernel
def b_X11_workOut_0 : List QE := [(.aload_n 0, 1, []), (.getfield 27, 4, []), (.iload_n 1, 5, []), (.iaload, 6, []), (.bipush 7, 8, []), (.if_icmp .ne 9, 11, [(0, 17)])]
def b_X11_workOut_11 : List QE := [(.aload_n 0, 12, []), (.iload_n 1, 13, []), (.invokevirtual 176, 16, []), (.return_, 17, [])]
def b_X11_workOut_17 : List QE := [(.aload_n 0, 18, []), (.getfield 27, 21, []), (.iload_n 1, 22, []), (.iaload, 23, []), (.bipush 12, 25, []), (.if_icmp .ne 9, 28, [(0, 34)])]
def b_X11_workOut_28 : List QE := [(.aload_n 0, 29, []), (.iload_n 1, 30, []), (.invokevirtual 180, 33, []), (.return_, 34, [])]
def b_X11_workOut_34 : List QE := [(.iconst 0, 35, []), (.istore_n 2, 36, [])]
def b_X11_workOut_36 : List QE := [(.iload_n 2, 37, []), (.aload_n 0, 38, []), (.getfield 13, 41, []), (.if_icmp .ge 39, 44, [(0, 80)])]
def b_X11_workOut_44 : List QE := [(.iconst 0, 45, []), (.istore_n 3, 46, [])]
def b_X11_workOut_46 : List QE := [(.iload_n 3, 47, []), (.aload_n 0, 48, []), (.getfield 7, 51, []), (.if_icmp .ge 23, 54, [(0, 74)])]
def b_X11_workOut_54 : List QE := [(.aload_n 0, 55, []), (.iload_n 1, 56, []), (.iload_n 3, 57, []), (.iload_n 2, 58, []), (.aload_n 0, 59, []), (.iload_n 1, 60, []), (.iload_n 3, 61, []), (.iload_n 2, 62, []), (.invokevirtual 183, 65, []), (.invokevirtual 186, 68, []), (.iinc 3 1, 71, []), (.goto (-25), 74, [(0, 46)])]
def b_X11_workOut_74 : List QE := [(.iinc 2 1, 77, []), (.goto (-41), 80, [(0, 36)])]
def b_X11_workOut_80 : List QE := [(.return_, 81, [])]
def L_X11_workOut : List (Nat × Option (List QE)) := [(0, some b_X11_workOut_0), (11, some b_X11_workOut_11), (17, some b_X11_workOut_17), (28, some b_X11_workOut_28), (34, some b_X11_workOut_34), (36, none), (44, some b_X11_workOut_44), (46, none), (54, some b_X11_workOut_54), (74, some b_X11_workOut_74), (80, some b_X11_workOut_80)]
def s_X11_workOut : Nat → Option (List QE) := q_look L_X11_workOut
theorem s_X11_workOut_0 : s_X11_workOut 0 = some b_X11_workOut_0 := id rfl
theorem s_X11_workOut_11 : s_X11_workOut 11 = some b_X11_workOut_11 := id rfl
theorem s_X11_workOut_17 : s_X11_workOut 17 = some b_X11_workOut_17 := id rfl
theorem s_X11_workOut_28 : s_X11_workOut 28 = some b_X11_workOut_28 := id rfl
theorem s_X11_workOut_34 : s_X11_workOut 34 = some b_X11_workOut_34 := id rfl
theorem s_X11_workOut_36 : s_X11_workOut 36 = none := id rfl
theorem s_X11_workOut_44 : s_X11_workOut 44 = some b_X11_workOut_44 := id rfl
theorem s_X11_workOut_46 : s_X11_workOut 46 = none := id rfl
theorem s_X11_workOut_54 : s_X11_workOut 54 = some b_X11_workOut_54 := id rfl
theorem s_X11_workOut_74 : s_X11_workOut 74 = some b_X11_workOut_74 := id rfl
theorem s_X11_workOut_80 : s_X11_workOut 80 = some b_X11_workOut_80 := id rfl
def u_X11_workOut : QU := ([27, 13, 7], [], [], [], [176, 180, 183, 186], [], [])
theorem o_X11_workOut : q_skok cX11_workOut 4 u_X11_workOut L_X11_workOut = true := by decide +kernel
theorem o_X11_workOut_36 : q_ok cX11_workOut 4 u_X11_workOut 36 b_X11_workOut_36 = true := by decide +kernel
theorem o_X11_workOut_46 : q_ok cX11_workOut 4 u_X11_workOut 46 b_X11_workOut_46 = true := by decide +kernel
theorem k_X11_workOut : q_chk RX11 fl_X11 ld_X11 u_X11_workOut = true := by decide +kernel
def b_X11_valueOf_0 : List QE := [(.aload_n 0, 1, []), (.getfield 39, 4, []), (.iload_n 1, 5, []), (.iaload, 6, []), (.ifCond .le 20, 9, [(0, 26)])]
def b_X11_valueOf_9 : List QE := [(.aload_n 0, 10, []), (.aload_n 0, 11, []), (.getfield 36, 14, []), (.iconst 3, 15, []), (.iload_n 1, 16, []), (.imul, 17, []), (.iaload, 18, []), (.iload_n 2, 19, []), (.iload_n 3, 20, []), (.invokevirtual 189, 23, []), (.goto 5, 26, [(0, 28)])]
def b_X11_valueOf_26 : List QE := [(.ldc 91, 28, [])]
def b_X11_valueOf_28 : List QE := [(.istore 4, 30, []), (.aload_n 0, 31, []), (.getfield 39, 34, []), (.iload_n 1, 35, []), (.iaload, 36, []), (.iconst 1, 37, []), (.if_icmp .le 22, 40, [(0, 59)])]
def b_X11_valueOf_40 : List QE := [(.aload_n 0, 41, []), (.aload_n 0, 42, []), (.getfield 36, 45, []), (.iconst 3, 46, []), (.iload_n 1, 47, []), (.imul, 48, []), (.iconst 1, 49, []), (.iadd, 50, []), (.iaload, 51, []), (.iload_n 2, 52, []), (.iload_n 3, 53, []), (.invokevirtual 189, 56, []), (.goto 5, 59, [(0, 61)])]
def b_X11_valueOf_59 : List QE := [(.ldc 91, 61, [])]
def b_X11_valueOf_61 : List QE := [(.istore 5, 63, []), (.aload_n 0, 64, []), (.getfield 27, 67, []), (.iload_n 1, 68, []), (.iaload, 69, []), (.tableswitch 354 0 11 #[63, 354, 354, 354, 354, 354, 354, 354, 86, 125, 144, 245], 132, [(0, 132), (1, 423), (2, 423), (3, 423), (4, 423), (5, 423), (6, 423), (7, 423), (8, 155), (9, 194), (10, 213), (11, 314), (0, 423)])]
def b_X11_valueOf_132 : List QE := [(.aload_n 0, 133, []), (.getfield 16, 136, []), (.sipush 144, 139, []), (.aload_n 0, 140, []), (.getfield 33, 143, []), (.iload_n 1, 144, []), (.iaload, 145, []), (.imul, 146, []), (.bipush 12, 148, []), (.iload_n 3, 149, []), (.imul, 150, []), (.iadd, 151, []), (.iload_n 2, 152, []), (.iadd, 153, []), (.iaload, 154, []), (.ireturn, 155, [])]
def b_X11_valueOf_155 : List QE := [(.iload 4, 157, []), (.ldc 91, 159, []), (.if_icmp .ne 8, 162, [(0, 167)])]
def b_X11_valueOf_162 : List QE := [(.ldc 91, 164, []), (.goto 29, 167, [(0, 193)])]
def b_X11_valueOf_167 : List QE := [(.iload 4, 169, []), (.ifCond .le 8, 172, [(0, 177)])]
def b_X11_valueOf_172 : List QE := [(.iload 5, 174, []), (.goto 19, 177, [(0, 193)])]
def b_X11_valueOf_177 : List QE := [(.aload_n 0, 178, []), (.aload_n 0, 179, []), (.getfield 36, 182, []), (.iconst 3, 183, []), (.iload_n 1, 184, []), (.imul, 185, []), (.iconst 2, 186, []), (.iadd, 187, []), (.iaload, 188, []), (.iload_n 2, 189, []), (.iload_n 3, 190, []), (.invokevirtual 189, 193, [])]
def b_X11_valueOf_193 : List QE := [(.ireturn, 194, [])]
def b_X11_valueOf_194 : List QE := [(.iload 4, 196, []), (.ldc 91, 198, []), (.if_icmp .ne 12, 201, [(0, 210)])]
def b_X11_valueOf_201 : List QE := [(.aload_n 0, 202, []), (.getfield 33, 205, []), (.iload_n 1, 206, []), (.iaload, 207, []), (.goto 5, 210, [(0, 212)])]
def b_X11_valueOf_210 : List QE := [(.iload 4, 212, [])]
def b_X11_valueOf_212 : List QE := [(.ireturn, 213, [])]
def b_X11_valueOf_213 : List QE := [(.aload_n 0, 214, []), (.getfield 33, 217, []), (.iload_n 1, 218, []), (.iaload, 219, []), (.istore 6, 221, []), (.aload_n 0, 222, []), (.invokevirtual 192, 225, []), (.iload_n 3, 226, []), (.iload 6, 228, []), (.isub, 229, []), (.istore 7, 231, [])]
def b_X11_valueOf_231 : List QE := [(.iload 7, 233, []), (.iload_n 3, 234, []), (.iload 6, 236, []), (.iadd, 237, []), (.if_icmp .gt 66, 240, [(0, 303)])]
def b_X11_valueOf_240 : List QE := [(.iload_n 2, 241, []), (.iload 6, 243, []), (.isub, 244, []), (.istore 8, 246, [])]
def b_X11_valueOf_246 : List QE := [(.iload 8, 248, []), (.iload_n 2, 249, []), (.iload 6, 251, []), (.iadd, 252, []), (.if_icmp .gt 45, 255, [(0, 297)])]
def b_X11_valueOf_255 : List QE := [(.aload_n 0, 256, []), (.aload_n 0, 257, []), (.iload 8, 259, []), (.iload 7, 261, []), (.invokevirtual 113, 264, []), (.ifCond .eq 22, 267, [(0, 286)])]
def b_X11_valueOf_267 : List QE := [(.aload_n 0, 268, []), (.aload_n 0, 269, []), (.getfield 36, 272, []), (.iconst 3, 273, []), (.iload_n 1, 274, []), (.imul, 275, []), (.iaload, 276, []), (.iload 8, 278, []), (.iload 7, 280, []), (.invokevirtual 189, 283, []), (.goto 5, 286, [(0, 288)])]
def b_X11_valueOf_286 : List QE := [(.ldc 91, 288, [])]
def b_X11_valueOf_288 : List QE := [(.invokevirtual 195, 291, []), (.iinc 8 1, 294, []), (.goto (-48), 297, [(0, 246)])]
def b_X11_valueOf_297 : List QE := [(.iinc 7 1, 300, []), (.goto (-69), 303, [(0, 231)])]
def b_X11_valueOf_303 : List QE := [(.aload_n 0, 304, []), (.aload_n 0, 305, []), (.getfield 30, 308, []), (.iload_n 1, 309, []), (.iaload, 310, []), (.invokevirtual 198, 313, []), (.ireturn, 314, [])]
def b_X11_valueOf_314 : List QE := [(.iload 5, 316, []), (.ldc 91, 318, []), (.if_icmp .ne 6, 321, [(0, 324)])]
def b_X11_valueOf_321 : List QE := [(.ldc 91, 323, []), (.ireturn, 324, [])]
def b_X11_valueOf_324 : List QE := [(.aload_n 0, 325, []), (.invokevirtual 192, 328, []), (.iconst 0, 329, []), (.istore 6, 331, [])]
def b_X11_valueOf_331 : List QE := [(.iload 6, 333, []), (.aload_n 0, 334, []), (.getfield 13, 337, []), (.if_icmp .ge 75, 340, [(0, 412)])]
def b_X11_valueOf_340 : List QE := [(.iconst 0, 341, []), (.istore 7, 343, [])]
def b_X11_valueOf_343 : List QE := [(.iload 7, 345, []), (.aload_n 0, 346, []), (.getfield 7, 349, []), (.if_icmp .ge 57, 352, [(0, 406)])]
def b_X11_valueOf_352 : List QE := [(.aload_n 0, 353, []), (.aload_n 0, 354, []), (.aload_n 0, 355, []), (.getfield 36, 358, []), (.iconst 3, 359, []), (.iload_n 1, 360, []), (.imul, 361, []), (.iconst 1, 362, []), (.iadd, 363, []), (.iaload, 364, []), (.iload 7, 366, []), (.iload 6, 368, []), (.invokevirtual 189, 371, []), (.iload 5, 373, []), (.if_icmp .ne 22, 376, [(0, 395)])]
def b_X11_valueOf_376 : List QE := [(.aload_n 0, 377, []), (.aload_n 0, 378, []), (.getfield 36, 381, []), (.iconst 3, 382, []), (.iload_n 1, 383, []), (.imul, 384, []), (.iaload, 385, []), (.iload 7, 387, []), (.iload 6, 389, []), (.invokevirtual 189, 392, []), (.goto 5, 395, [(0, 397)])]
def b_X11_valueOf_395 : List QE := [(.ldc 91, 397, [])]
def b_X11_valueOf_397 : List QE := [(.invokevirtual 195, 400, []), (.iinc 7 1, 403, []), (.goto (-60), 406, [(0, 343)])]
def b_X11_valueOf_406 : List QE := [(.iinc 6 1, 409, []), (.goto (-78), 412, [(0, 331)])]
def b_X11_valueOf_412 : List QE := [(.aload_n 0, 413, []), (.aload_n 0, 414, []), (.getfield 30, 417, []), (.iload_n 1, 418, []), (.iaload, 419, []), (.invokevirtual 198, 422, []), (.ireturn, 423, [])]
def b_X11_valueOf_423 : List QE := [(.aload_n 0, 424, []), (.aload_n 0, 425, []), (.getfield 27, 428, []), (.iload_n 1, 429, []), (.iaload, 430, []), (.iload 4, 432, []), (.iload 5, 434, []), (.invokevirtual 201, 437, []), (.ireturn, 438, [])]
def L_X11_valueOf : List (Nat × Option (List QE)) := [(0, some b_X11_valueOf_0), (9, some b_X11_valueOf_9), (26, some b_X11_valueOf_26), (28, some b_X11_valueOf_28), (40, some b_X11_valueOf_40), (59, some b_X11_valueOf_59), (61, some b_X11_valueOf_61), (132, some b_X11_valueOf_132), (155, some b_X11_valueOf_155), (162, some b_X11_valueOf_162), (167, some b_X11_valueOf_167), (172, some b_X11_valueOf_172), (177, some b_X11_valueOf_177), (193, some b_X11_valueOf_193), (194, some b_X11_valueOf_194), (201, some b_X11_valueOf_201), (210, some b_X11_valueOf_210), (212, some b_X11_valueOf_212), (213, some b_X11_valueOf_213), (231, none), (240, some b_X11_valueOf_240), (246, none), (255, some b_X11_valueOf_255), (267, some b_X11_valueOf_267), (286, some b_X11_valueOf_286), (288, some b_X11_valueOf_288), (297, some b_X11_valueOf_297), (303, some b_X11_valueOf_303), (314, some b_X11_valueOf_314), (321, some b_X11_valueOf_321), (324, some b_X11_valueOf_324), (331, none), (340, some b_X11_valueOf_340), (343, none), (352, some b_X11_valueOf_352), (376, some b_X11_valueOf_376), (395, some b_X11_valueOf_395), (397, some b_X11_valueOf_397), (406, some b_X11_valueOf_406), (412, some b_X11_valueOf_412), (423, some b_X11_valueOf_423)]
def s_X11_valueOf : Nat → Option (List QE) := q_look L_X11_valueOf
theorem s_X11_valueOf_0 : s_X11_valueOf 0 = some b_X11_valueOf_0 := id rfl
theorem s_X11_valueOf_9 : s_X11_valueOf 9 = some b_X11_valueOf_9 := id rfl
theorem s_X11_valueOf_26 : s_X11_valueOf 26 = some b_X11_valueOf_26 := id rfl
theorem s_X11_valueOf_28 : s_X11_valueOf 28 = some b_X11_valueOf_28 := id rfl
theorem s_X11_valueOf_40 : s_X11_valueOf 40 = some b_X11_valueOf_40 := id rfl
theorem s_X11_valueOf_59 : s_X11_valueOf 59 = some b_X11_valueOf_59 := id rfl
theorem s_X11_valueOf_61 : s_X11_valueOf 61 = some b_X11_valueOf_61 := id rfl
theorem s_X11_valueOf_132 : s_X11_valueOf 132 = some b_X11_valueOf_132 := id rfl
theorem s_X11_valueOf_155 : s_X11_valueOf 155 = some b_X11_valueOf_155 := id rfl
theorem s_X11_valueOf_162 : s_X11_valueOf 162 = some b_X11_valueOf_162 := id rfl
theorem s_X11_valueOf_167 : s_X11_valueOf 167 = some b_X11_valueOf_167 := id rfl
theorem s_X11_valueOf_172 : s_X11_valueOf 172 = some b_X11_valueOf_172 := id rfl
theorem s_X11_valueOf_177 : s_X11_valueOf 177 = some b_X11_valueOf_177 := id rfl
theorem s_X11_valueOf_193 : s_X11_valueOf 193 = some b_X11_valueOf_193 := id rfl
theorem s_X11_valueOf_194 : s_X11_valueOf 194 = some b_X11_valueOf_194 := id rfl
theorem s_X11_valueOf_201 : s_X11_valueOf 201 = some b_X11_valueOf_201 := id rfl
theorem s_X11_valueOf_210 : s_X11_valueOf 210 = some b_X11_valueOf_210 := id rfl
theorem s_X11_valueOf_212 : s_X11_valueOf 212 = some b_X11_valueOf_212 := id rfl
theorem s_X11_valueOf_213 : s_X11_valueOf 213 = some b_X11_valueOf_213 := id rfl
theorem s_X11_valueOf_231 : s_X11_valueOf 231 = none := id rfl
theorem s_X11_valueOf_240 : s_X11_valueOf 240 = some b_X11_valueOf_240 := id rfl
theorem s_X11_valueOf_246 : s_X11_valueOf 246 = none := id rfl
theorem s_X11_valueOf_255 : s_X11_valueOf 255 = some b_X11_valueOf_255 := id rfl
theorem s_X11_valueOf_267 : s_X11_valueOf 267 = some b_X11_valueOf_267 := id rfl
theorem s_X11_valueOf_286 : s_X11_valueOf 286 = some b_X11_valueOf_286 := id rfl
theorem s_X11_valueOf_288 : s_X11_valueOf 288 = some b_X11_valueOf_288 := id rfl
theorem s_X11_valueOf_297 : s_X11_valueOf 297 = some b_X11_valueOf_297 := id rfl
theorem s_X11_valueOf_303 : s_X11_valueOf 303 = some b_X11_valueOf_303 := id rfl
theorem s_X11_valueOf_314 : s_X11_valueOf 314 = some b_X11_valueOf_314 := id rfl
theorem s_X11_valueOf_321 : s_X11_valueOf 321 = some b_X11_valueOf_321 := id rfl
theorem s_X11_valueOf_324 : s_X11_valueOf 324 = some b_X11_valueOf_324 := id rfl
theorem s_X11_valueOf_331 : s_X11_valueOf 331 = none := id rfl
theorem s_X11_valueOf_340 : s_X11_valueOf 340 = some b_X11_valueOf_340 := id rfl
theorem s_X11_valueOf_343 : s_X11_valueOf 343 = none := id rfl
theorem s_X11_valueOf_352 : s_X11_valueOf 352 = some b_X11_valueOf_352 := id rfl
theorem s_X11_valueOf_376 : s_X11_valueOf 376 = some b_X11_valueOf_376 := id rfl
theorem s_X11_valueOf_395 : s_X11_valueOf 395 = some b_X11_valueOf_395 := id rfl
theorem s_X11_valueOf_397 : s_X11_valueOf 397 = some b_X11_valueOf_397 := id rfl
theorem s_X11_valueOf_406 : s_X11_valueOf 406 = some b_X11_valueOf_406 := id rfl
theorem s_X11_valueOf_412 : s_X11_valueOf 412 = some b_X11_valueOf_412 := id rfl
theorem s_X11_valueOf_423 : s_X11_valueOf 423 = some b_X11_valueOf_423 := id rfl
def u_X11_valueOf : QU := ([39, 36, 27, 16, 33, 30, 13, 7], [], [91], [], [189, 192, 113, 195, 198, 201], [], [])
theorem o_X11_valueOf : q_skok cX11_valueOf 9 u_X11_valueOf L_X11_valueOf = true := by decide +kernel
theorem o_X11_valueOf_331 : q_ok cX11_valueOf 9 u_X11_valueOf 331 b_X11_valueOf_331 = true := by decide +kernel
theorem o_X11_valueOf_343 : q_ok cX11_valueOf 9 u_X11_valueOf 343 b_X11_valueOf_343 = true := by decide +kernel
theorem o_X11_valueOf_246 : q_ok cX11_valueOf 9 u_X11_valueOf 246 b_X11_valueOf_246 = true := by decide +kernel
theorem o_X11_valueOf_231 : q_ok cX11_valueOf 9 u_X11_valueOf 231 b_X11_valueOf_231 = true := by decide +kernel
theorem k_X11_valueOf : q_chk RX11 fl_X11 ld_X11 u_X11_valueOf = true := by decide +kernel
def b_X11_stepX_0 : List QE := [(.iload_n 0, 1, []), (.ifCond .ne 7, 4, [(0, 8)])]
def b_X11_stepX_4 : List QE := [(.iconst 1, 5, []), (.goto 13, 8, [(0, 18)])]
def b_X11_stepX_8 : List QE := [(.iload_n 0, 9, []), (.iconst 2, 10, []), (.if_icmp .ne 7, 13, [(0, 17)])]
def b_X11_stepX_13 : List QE := [(.iconst (-1), 14, []), (.goto 4, 17, [(0, 18)])]
def b_X11_stepX_17 : List QE := [(.iconst 0, 18, [])]
def b_X11_stepX_18 : List QE := [(.ireturn, 19, [])]
def L_X11_stepX : List (Nat × Option (List QE)) := [(0, some b_X11_stepX_0), (4, some b_X11_stepX_4), (8, some b_X11_stepX_8), (13, some b_X11_stepX_13), (17, some b_X11_stepX_17), (18, some b_X11_stepX_18)]
def s_X11_stepX : Nat → Option (List QE) := q_look L_X11_stepX
theorem s_X11_stepX_0 : s_X11_stepX 0 = some b_X11_stepX_0 := id rfl
theorem s_X11_stepX_4 : s_X11_stepX 4 = some b_X11_stepX_4 := id rfl
theorem s_X11_stepX_8 : s_X11_stepX 8 = some b_X11_stepX_8 := id rfl
theorem s_X11_stepX_13 : s_X11_stepX 13 = some b_X11_stepX_13 := id rfl
theorem s_X11_stepX_17 : s_X11_stepX 17 = some b_X11_stepX_17 := id rfl
theorem s_X11_stepX_18 : s_X11_stepX 18 = some b_X11_stepX_18 := id rfl
def u_X11_stepX : QU := ([], [], [], [], [], [], [])
theorem o_X11_stepX : q_skok cX11_stepX 1 u_X11_stepX L_X11_stepX = true := by decide +kernel
theorem k_X11_stepX : q_chk RX11 fl_X11 ld_X11 u_X11_stepX = true := by decide +kernel
def b_X11_stepY_0 : List QE := [(.iload_n 0, 1, []), (.iconst 1, 2, []), (.if_icmp .ne 7, 5, [(0, 9)])]
def b_X11_stepY_5 : List QE := [(.iconst 1, 6, []), (.goto 13, 9, [(0, 19)])]
def b_X11_stepY_9 : List QE := [(.iload_n 0, 10, []), (.iconst 3, 11, []), (.if_icmp .ne 7, 14, [(0, 18)])]
def b_X11_stepY_14 : List QE := [(.iconst (-1), 15, []), (.goto 4, 18, [(0, 19)])]
def b_X11_stepY_18 : List QE := [(.iconst 0, 19, [])]
def b_X11_stepY_19 : List QE := [(.ireturn, 20, [])]
def L_X11_stepY : List (Nat × Option (List QE)) := [(0, some b_X11_stepY_0), (5, some b_X11_stepY_5), (9, some b_X11_stepY_9), (14, some b_X11_stepY_14), (18, some b_X11_stepY_18), (19, some b_X11_stepY_19)]
def s_X11_stepY : Nat → Option (List QE) := q_look L_X11_stepY
theorem s_X11_stepY_0 : s_X11_stepY 0 = some b_X11_stepY_0 := id rfl
theorem s_X11_stepY_5 : s_X11_stepY 5 = some b_X11_stepY_5 := id rfl
theorem s_X11_stepY_9 : s_X11_stepY 9 = some b_X11_stepY_9 := id rfl
theorem s_X11_stepY_14 : s_X11_stepY 14 = some b_X11_stepY_14 := id rfl
theorem s_X11_stepY_18 : s_X11_stepY 18 = some b_X11_stepY_18 := id rfl
theorem s_X11_stepY_19 : s_X11_stepY 19 = some b_X11_stepY_19 := id rfl
def u_X11_stepY : QU := ([], [], [], [], [], [], [])
theorem o_X11_stepY : q_skok cX11_stepY 1 u_X11_stepY L_X11_stepY = true := by decide +kernel
theorem k_X11_stepY : q_chk RX11 fl_X11 ld_X11 u_X11_stepY = true := by decide +kernel
def b_X11_workWay_0 : List QE := [(.aload_n 0, 1, []), (.getfield 36, 4, []), (.iconst 3, 5, []), (.iload_n 1, 6, []), (.imul, 7, []), (.iaload, 8, []), (.istore_n 2, 9, []), (.aload_n 0, 10, []), (.getfield 36, 13, []), (.iconst 3, 14, []), (.iload_n 1, 15, []), (.imul, 16, []), (.iconst 1, 17, []), (.iadd, 18, []), (.iaload, 19, []), (.istore_n 3, 20, []), (.iconst 0, 21, []), (.istore 4, 23, [])]
def b_X11_workWay_23 : List QE := [(.iload 4, 25, []), (.aload_n 0, 26, []), (.getfield 13, 29, []), (.if_icmp .ge 87, 32, [(0, 116)])]
def b_X11_workWay_32 : List QE := [(.iconst 0, 33, []), (.istore 5, 35, [])]
def b_X11_workWay_35 : List QE := [(.iload 5, 37, []), (.aload_n 0, 38, []), (.getfield 7, 41, []), (.if_icmp .ge 69, 44, [(0, 110)])]
def b_X11_workWay_44 : List QE := [(.aload_n 0, 45, []), (.getfield 51, 48, []), (.bipush 12, 50, []), (.iload 4, 52, []), (.imul, 53, []), (.iload 5, 55, []), (.iadd, 56, []), (.aload_n 0, 57, []), (.iload_n 3, 58, []), (.iload 5, 60, []), (.iload 4, 62, []), (.invokevirtual 189, 65, []), (.ldc 91, 67, []), (.if_icmp .eq 33, 70, [(0, 100)])]
def b_X11_workWay_70 : List QE := [(.aload_n 0, 71, []), (.iload_n 2, 72, []), (.iload 5, 74, []), (.iload 4, 76, []), (.invokevirtual 189, 79, []), (.ldc 91, 81, []), (.if_icmp .eq 19, 84, [(0, 100)])]
def b_X11_workWay_84 : List QE := [(.aload_n 0, 85, []), (.iload_n 2, 86, []), (.iload 5, 88, []), (.iload 4, 90, []), (.invokevirtual 189, 93, []), (.ifCond .le 7, 96, [(0, 100)])]
def b_X11_workWay_96 : List QE := [(.lconst 0, 97, []), (.goto 6, 100, [(0, 103)])]
def b_X11_workWay_100 : List QE := [(.ldc2_w 204, 103, [])]
def b_X11_workWay_103 : List QE := [(.lastore, 104, []), (.iinc 5 1, 107, []), (.goto (-72), 110, [(0, 35)])]
def b_X11_workWay_110 : List QE := [(.iinc 4 1, 113, []), (.goto (-90), 116, [(0, 23)])]
def b_X11_workWay_116 : List QE := [(.iconst 1, 117, []), (.istore 4, 119, [])]
def b_X11_workWay_119 : List QE := [(.iload 4, 121, []), (.ifCond .eq 220, 124, [(0, 341)])]
def b_X11_workWay_124 : List QE := [(.iconst 0, 125, []), (.istore 4, 127, []), (.iconst 0, 128, []), (.istore 5, 130, [])]
def b_X11_workWay_130 : List QE := [(.iload 5, 132, []), (.sipush 576, 135, []), (.if_icmp .ge 203, 138, [(0, 338)])]
def b_X11_workWay_138 : List QE := [(.iload 5, 140, []), (.iconst 4, 141, []), (.idiv, 142, []), (.bipush 12, 144, []), (.irem, 145, []), (.istore 6, 147, []), (.iload 5, 149, []), (.bipush 48, 151, []), (.idiv, 152, []), (.istore 7, 154, []), (.iload 6, 156, []), (.iload 5, 158, []), (.iconst 4, 159, []), (.irem, 160, []), (.invokestatic 206, 163, []), (.iadd, 164, []), (.istore 8, 166, []), (.iload 7, 168, []), (.iload 5, 170, []), (.iconst 4, 171, []), (.irem, 172, []), (.invokestatic 209, 175, []), (.iadd, 176, []), (.istore 9, 178, []), (.aload_n 0, 179, []), (.iload 6, 181, []), (.iload 7, 183, []), (.invokevirtual 113, 186, []), (.ifCond .eq 146, 189, [(0, 332)])]
def b_X11_workWay_189 : List QE := [(.aload_n 0, 190, []), (.iload 8, 192, []), (.iload 9, 194, []), (.invokevirtual 113, 197, []), (.ifCond .eq 135, 200, [(0, 332)])]
def b_X11_workWay_200 : List QE := [(.aload_n 0, 201, []), (.getfield 51, 204, []), (.bipush 12, 206, []), (.iload 7, 208, []), (.imul, 209, []), (.iload 6, 211, []), (.iadd, 212, []), (.laload, 213, []), (.lconst 0, 214, []), (.lcmp, 215, []), (.ifCond .lt 117, 218, [(0, 332)])]
def b_X11_workWay_218 : List QE := [(.aload_n 0, 219, []), (.iload_n 3, 220, []), (.iload 8, 222, []), (.iload 9, 224, []), (.invokevirtual 189, 227, []), (.ldc 91, 229, []), (.if_icmp .ne 6, 232, [(0, 235)])]
def b_X11_workWay_232 : List QE := [(.goto 100, 235, [(0, 332)])]
def b_X11_workWay_235 : List QE := [(.aload_n 0, 236, []), (.getfield 51, 239, []), (.bipush 12, 241, []), (.iload 7, 243, []), (.imul, 244, []), (.iload 6, 246, []), (.iadd, 247, []), (.laload, 248, []), (.aload_n 0, 249, []), (.iload_n 3, 250, []), (.iload 8, 252, []), (.iload 9, 254, []), (.invokevirtual 189, 257, []), (.ifCond .ge 7, 260, [(0, 264)])]
def b_X11_workWay_260 : List QE := [(.iconst 0, 261, []), (.goto 12, 264, [(0, 273)])]
def b_X11_workWay_264 : List QE := [(.aload_n 0, 265, []), (.iload_n 3, 266, []), (.iload 8, 268, []), (.iload 9, 270, []), (.invokevirtual 189, 273, [])]
def b_X11_workWay_273 : List QE := [(.i2l, 274, []), (.ladd, 275, []), (.lstore 10, 277, []), (.aload_n 0, 278, []), (.getfield 51, 281, []), (.bipush 12, 283, []), (.iload 9, 285, []), (.imul, 286, []), (.iload 8, 288, []), (.iadd, 289, []), (.laload, 290, []), (.lconst 0, 291, []), (.lcmp, 292, []), (.ifCond .lt 22, 295, [(0, 314)])]
def b_X11_workWay_295 : List QE := [(.lload 10, 297, []), (.aload_n 0, 298, []), (.getfield 51, 301, []), (.bipush 12, 303, []), (.iload 9, 305, []), (.imul, 306, []), (.iload 8, 308, []), (.iadd, 309, []), (.laload, 310, []), (.lcmp, 311, []), (.ifCond .ge 21, 314, [(0, 332)])]
def b_X11_workWay_314 : List QE := [(.aload_n 0, 315, []), (.getfield 51, 318, []), (.bipush 12, 320, []), (.iload 9, 322, []), (.imul, 323, []), (.iload 8, 325, []), (.iadd, 326, []), (.lload 10, 328, []), (.lastore, 329, []), (.iconst 1, 330, []), (.istore 4, 332, [])]
def b_X11_workWay_332 : List QE := [(.iinc 5 1, 335, []), (.goto (-205), 338, [(0, 130)])]
def b_X11_workWay_338 : List QE := [(.goto (-219), 341, [(0, 119)])]
def b_X11_workWay_341 : List QE := [(.iconst 0, 342, []), (.istore 5, 344, [])]
def b_X11_workWay_344 : List QE := [(.iload 5, 346, []), (.aload_n 0, 347, []), (.getfield 13, 350, []), (.if_icmp .ge 75, 353, [(0, 425)])]
def b_X11_workWay_353 : List QE := [(.iconst 0, 354, []), (.istore 6, 356, [])]
def b_X11_workWay_356 : List QE := [(.iload 6, 358, []), (.aload_n 0, 359, []), (.getfield 7, 362, []), (.if_icmp .ge 57, 365, [(0, 419)])]
def b_X11_workWay_365 : List QE := [(.aload_n 0, 366, []), (.iload_n 1, 367, []), (.iload 6, 369, []), (.iload 5, 371, []), (.aload_n 0, 372, []), (.getfield 51, 375, []), (.bipush 12, 377, []), (.iload 5, 379, []), (.imul, 380, []), (.iload 6, 382, []), (.iadd, 383, []), (.laload, 384, []), (.lconst 0, 385, []), (.lcmp, 386, []), (.ifCond .ge 8, 389, [(0, 394)])]
def b_X11_workWay_389 : List QE := [(.ldc 91, 391, []), (.goto 19, 394, [(0, 410)])]
def b_X11_workWay_394 : List QE := [(.aload_n 0, 395, []), (.getfield 51, 398, []), (.bipush 12, 400, []), (.iload 5, 402, []), (.imul, 403, []), (.iload 6, 405, []), (.iadd, 406, []), (.laload, 407, []), (.invokestatic 172, 410, [])]
def b_X11_workWay_410 : List QE := [(.invokevirtual 186, 413, []), (.iinc 6 1, 416, []), (.goto (-60), 419, [(0, 356)])]
def b_X11_workWay_419 : List QE := [(.iinc 5 1, 422, []), (.goto (-78), 425, [(0, 344)])]
def b_X11_workWay_425 : List QE := [(.return_, 426, [])]
def L_X11_workWay : List (Nat × Option (List QE)) := [(0, some b_X11_workWay_0), (23, none), (32, some b_X11_workWay_32), (35, none), (44, some b_X11_workWay_44), (70, some b_X11_workWay_70), (84, some b_X11_workWay_84), (96, some b_X11_workWay_96), (100, some b_X11_workWay_100), (103, some b_X11_workWay_103), (110, some b_X11_workWay_110), (116, some b_X11_workWay_116), (119, none), (124, some b_X11_workWay_124), (130, none), (138, some b_X11_workWay_138), (189, some b_X11_workWay_189), (200, some b_X11_workWay_200), (218, some b_X11_workWay_218), (232, some b_X11_workWay_232), (235, some b_X11_workWay_235), (260, some b_X11_workWay_260), (264, some b_X11_workWay_264), (273, some b_X11_workWay_273), (295, some b_X11_workWay_295), (314, some b_X11_workWay_314), (332, some b_X11_workWay_332), (338, some b_X11_workWay_338), (341, some b_X11_workWay_341), (344, none), (353, some b_X11_workWay_353), (356, none), (365, some b_X11_workWay_365), (389, some b_X11_workWay_389), (394, some b_X11_workWay_394), (410, some b_X11_workWay_410), (419, some b_X11_workWay_419), (425, some b_X11_workWay_425)]
def s_X11_workWay : Nat → Option (List QE) := q_look L_X11_workWay
theorem s_X11_workWay_0 : s_X11_workWay 0 = some b_X11_workWay_0 := id rfl
theorem s_X11_workWay_23 : s_X11_workWay 23 = none := id rfl
theorem s_X11_workWay_32 : s_X11_workWay 32 = some b_X11_workWay_32 := id rfl
theorem s_X11_workWay_35 : s_X11_workWay 35 = none := id rfl
theorem s_X11_workWay_44 : s_X11_workWay 44 = some b_X11_workWay_44 := id rfl
theorem s_X11_workWay_70 : s_X11_workWay 70 = some b_X11_workWay_70 := id rfl
theorem s_X11_workWay_84 : s_X11_workWay 84 = some b_X11_workWay_84 := id rfl
theorem s_X11_workWay_96 : s_X11_workWay 96 = some b_X11_workWay_96 := id rfl
theorem s_X11_workWay_100 : s_X11_workWay 100 = some b_X11_workWay_100 := id rfl
theorem s_X11_workWay_103 : s_X11_workWay 103 = some b_X11_workWay_103 := id rfl
theorem s_X11_workWay_110 : s_X11_workWay 110 = some b_X11_workWay_110 := id rfl
theorem s_X11_workWay_116 : s_X11_workWay 116 = some b_X11_workWay_116 := id rfl
theorem s_X11_workWay_119 : s_X11_workWay 119 = none := id rfl
theorem s_X11_workWay_124 : s_X11_workWay 124 = some b_X11_workWay_124 := id rfl
theorem s_X11_workWay_130 : s_X11_workWay 130 = none := id rfl
theorem s_X11_workWay_138 : s_X11_workWay 138 = some b_X11_workWay_138 := id rfl
theorem s_X11_workWay_189 : s_X11_workWay 189 = some b_X11_workWay_189 := id rfl
theorem s_X11_workWay_200 : s_X11_workWay 200 = some b_X11_workWay_200 := id rfl
theorem s_X11_workWay_218 : s_X11_workWay 218 = some b_X11_workWay_218 := id rfl
theorem s_X11_workWay_232 : s_X11_workWay 232 = some b_X11_workWay_232 := id rfl
theorem s_X11_workWay_235 : s_X11_workWay 235 = some b_X11_workWay_235 := id rfl
theorem s_X11_workWay_260 : s_X11_workWay 260 = some b_X11_workWay_260 := id rfl
theorem s_X11_workWay_264 : s_X11_workWay 264 = some b_X11_workWay_264 := id rfl
theorem s_X11_workWay_273 : s_X11_workWay 273 = some b_X11_workWay_273 := id rfl
theorem s_X11_workWay_295 : s_X11_workWay 295 = some b_X11_workWay_295 := id rfl
theorem s_X11_workWay_314 : s_X11_workWay 314 = some b_X11_workWay_314 := id rfl
theorem s_X11_workWay_332 : s_X11_workWay 332 = some b_X11_workWay_332 := id rfl
theorem s_X11_workWay_338 : s_X11_workWay 338 = some b_X11_workWay_338 := id rfl
theorem s_X11_workWay_341 : s_X11_workWay 341 = some b_X11_workWay_341 := id rfl
theorem s_X11_workWay_344 : s_X11_workWay 344 = none := id rfl
theorem s_X11_workWay_353 : s_X11_workWay 353 = some b_X11_workWay_353 := id rfl
theorem s_X11_workWay_356 : s_X11_workWay 356 = none := id rfl
theorem s_X11_workWay_365 : s_X11_workWay 365 = some b_X11_workWay_365 := id rfl
theorem s_X11_workWay_389 : s_X11_workWay 389 = some b_X11_workWay_389 := id rfl
theorem s_X11_workWay_394 : s_X11_workWay 394 = some b_X11_workWay_394 := id rfl
theorem s_X11_workWay_410 : s_X11_workWay 410 = some b_X11_workWay_410 := id rfl
theorem s_X11_workWay_419 : s_X11_workWay 419 = some b_X11_workWay_419 := id rfl
theorem s_X11_workWay_425 : s_X11_workWay 425 = some b_X11_workWay_425 := id rfl
def u_X11_workWay : QU := ([36, 13, 7, 51], [], [91, 204], [], [189, 113, 186], [206, 209, 172], [])
theorem o_X11_workWay : q_skok cX11_workWay 12 u_X11_workWay L_X11_workWay = true := by decide +kernel
theorem o_X11_workWay_130 : q_ok cX11_workWay 12 u_X11_workWay 130 b_X11_workWay_130 = true := by decide +kernel
theorem o_X11_workWay_35 : q_ok cX11_workWay 12 u_X11_workWay 35 b_X11_workWay_35 = true := by decide +kernel
theorem o_X11_workWay_356 : q_ok cX11_workWay 12 u_X11_workWay 356 b_X11_workWay_356 = true := by decide +kernel
theorem o_X11_workWay_23 : q_ok cX11_workWay 12 u_X11_workWay 23 b_X11_workWay_23 = true := by decide +kernel
theorem o_X11_workWay_119 : q_ok cX11_workWay 12 u_X11_workWay 119 b_X11_workWay_119 = true := by decide +kernel
theorem o_X11_workWay_344 : q_ok cX11_workWay 12 u_X11_workWay 344 b_X11_workWay_344 = true := by decide +kernel
theorem k_X11_workWay : q_chk RX11 fl_X11 ld_X11 u_X11_workWay = true := by decide +kernel
def b_X11_flowOf_0 : List QE := [(.iconst (-1), 1, []), (.istore 4, 3, []), (.aload_n 0, 4, []), (.iload_n 1, 5, []), (.iload_n 2, 6, []), (.iload_n 3, 7, []), (.invokevirtual 189, 10, []), (.istore 5, 12, []), (.iconst 0, 13, []), (.istore 6, 15, [])]
def b_X11_flowOf_15 : List QE := [(.iload 6, 17, []), (.iconst 4, 18, []), (.if_icmp .ge 87, 21, [(0, 105)])]
def b_X11_flowOf_21 : List QE := [(.iload_n 2, 22, []), (.iload 6, 24, []), (.invokestatic 206, 27, []), (.iadd, 28, []), (.istore 7, 30, []), (.iload_n 3, 31, []), (.iload 6, 33, []), (.invokestatic 209, 36, []), (.iadd, 37, []), (.istore 8, 39, []), (.aload_n 0, 40, []), (.iload 7, 42, []), (.iload 8, 44, []), (.invokevirtual 113, 47, []), (.ifCond .eq 52, 50, [(0, 99)])]
def b_X11_flowOf_50 : List QE := [(.aload_n 0, 51, []), (.iload_n 1, 52, []), (.iload 7, 54, []), (.iload 8, 56, []), (.invokevirtual 189, 59, []), (.ldc 91, 61, []), (.if_icmp .eq 38, 64, [(0, 99)])]
def b_X11_flowOf_64 : List QE := [(.aload_n 0, 65, []), (.iload_n 1, 66, []), (.iload 7, 68, []), (.iload 8, 70, []), (.invokevirtual 189, 73, []), (.iload 5, 75, []), (.if_icmp .ge 24, 78, [(0, 99)])]
def b_X11_flowOf_78 : List QE := [(.aload_n 0, 79, []), (.iload_n 1, 80, []), (.iload 7, 82, []), (.iload 8, 84, []), (.invokevirtual 189, 87, []), (.istore 5, 89, []), (.bipush 12, 91, []), (.iload 8, 93, []), (.imul, 94, []), (.iload 7, 96, []), (.iadd, 97, []), (.istore 4, 99, [])]
def b_X11_flowOf_99 : List QE := [(.iinc 6 1, 102, []), (.goto (-87), 105, [(0, 15)])]
def b_X11_flowOf_105 : List QE := [(.iload 4, 107, []), (.ireturn, 108, [])]
def L_X11_flowOf : List (Nat × Option (List QE)) := [(0, some b_X11_flowOf_0), (15, none), (21, some b_X11_flowOf_21), (50, some b_X11_flowOf_50), (64, some b_X11_flowOf_64), (78, some b_X11_flowOf_78), (99, some b_X11_flowOf_99), (105, some b_X11_flowOf_105)]
def s_X11_flowOf : Nat → Option (List QE) := q_look L_X11_flowOf
theorem s_X11_flowOf_0 : s_X11_flowOf 0 = some b_X11_flowOf_0 := id rfl
theorem s_X11_flowOf_15 : s_X11_flowOf 15 = none := id rfl
theorem s_X11_flowOf_21 : s_X11_flowOf 21 = some b_X11_flowOf_21 := id rfl
theorem s_X11_flowOf_50 : s_X11_flowOf 50 = some b_X11_flowOf_50 := id rfl
theorem s_X11_flowOf_64 : s_X11_flowOf 64 = some b_X11_flowOf_64 := id rfl
theorem s_X11_flowOf_78 : s_X11_flowOf 78 = some b_X11_flowOf_78 := id rfl
theorem s_X11_flowOf_99 : s_X11_flowOf 99 = some b_X11_flowOf_99 := id rfl
theorem s_X11_flowOf_105 : s_X11_flowOf 105 = some b_X11_flowOf_105 := id rfl
def u_X11_flowOf : QU := ([], [], [91], [], [189, 113], [206, 209], [])
theorem o_X11_flowOf : q_skok cX11_flowOf 9 u_X11_flowOf L_X11_flowOf = true := by decide +kernel
theorem o_X11_flowOf_15 : q_ok cX11_flowOf 9 u_X11_flowOf 15 b_X11_flowOf_15 = true := by decide +kernel
theorem k_X11_flowOf : q_chk RX11 fl_X11 ld_X11 u_X11_flowOf = true := by decide +kernel
def b_X11_workFlow_0 : List QE := [(.aload_n 0, 1, []), (.getfield 36, 4, []), (.iconst 3, 5, []), (.iload_n 1, 6, []), (.imul, 7, []), (.iaload, 8, []), (.istore_n 2, 9, []), (.iconst 0, 10, []), (.istore_n 3, 11, [])]
def b_X11_workFlow_11 : List QE := [(.iload_n 3, 12, []), (.aload_n 0, 13, []), (.getfield 13, 16, []), (.if_icmp .ge 91, 19, [(0, 107)])]
def b_X11_workFlow_19 : List QE := [(.iconst 0, 20, []), (.istore 4, 22, [])]
def b_X11_workFlow_22 : List QE := [(.iload 4, 24, []), (.aload_n 0, 25, []), (.getfield 7, 28, []), (.if_icmp .ge 73, 31, [(0, 101)])]
def b_X11_workFlow_31 : List QE := [(.aload_n 0, 32, []), (.iload_n 1, 33, []), (.iload 4, 35, []), (.iload_n 3, 36, []), (.aload_n 0, 37, []), (.iload_n 2, 38, []), (.iload 4, 40, []), (.iload_n 3, 41, []), (.invokevirtual 189, 44, []), (.ldc 91, 46, []), (.if_icmp .ne 8, 49, [(0, 54)])]
def b_X11_workFlow_49 : List QE := [(.ldc 91, 51, []), (.goto 4, 54, [(0, 55)])]
def b_X11_workFlow_54 : List QE := [(.iconst 0, 55, [])]
def b_X11_workFlow_55 : List QE := [(.invokevirtual 186, 58, []), (.aload_n 0, 59, []), (.getfield 55, 62, []), (.bipush 12, 64, []), (.iload_n 3, 65, []), (.imul, 66, []), (.iload 4, 68, []), (.iadd, 69, []), (.aload_n 0, 70, []), (.iload_n 2, 71, []), (.iload 4, 73, []), (.iload_n 3, 74, []), (.invokevirtual 189, 77, []), (.ldc 91, 79, []), (.if_icmp .ne 7, 82, [(0, 86)])]
def b_X11_workFlow_82 : List QE := [(.iconst (-1), 83, []), (.goto 11, 86, [(0, 94)])]
def b_X11_workFlow_86 : List QE := [(.aload_n 0, 87, []), (.iload_n 2, 88, []), (.iload 4, 90, []), (.iload_n 3, 91, []), (.invokevirtual 212, 94, [])]
def b_X11_workFlow_94 : List QE := [(.iastore, 95, []), (.iinc 4 1, 98, []), (.goto (-76), 101, [(0, 22)])]
def b_X11_workFlow_101 : List QE := [(.iinc 3 1, 104, []), (.goto (-93), 107, [(0, 11)])]
def b_X11_workFlow_107 : List QE := [(.iconst 0, 108, []), (.istore_n 3, 109, [])]
def b_X11_workFlow_109 : List QE := [(.iload_n 3, 110, []), (.aload_n 0, 111, []), (.getfield 13, 114, []), (.if_icmp .ge 88, 117, [(0, 202)])]
def b_X11_workFlow_117 : List QE := [(.iconst 0, 118, []), (.istore 4, 120, [])]
def b_X11_workFlow_120 : List QE := [(.iload 4, 122, []), (.aload_n 0, 123, []), (.getfield 7, 126, []), (.if_icmp .ge 70, 129, [(0, 196)])]
def b_X11_workFlow_129 : List QE := [(.aload_n 0, 130, []), (.iload_n 2, 131, []), (.iload 4, 133, []), (.iload_n 3, 134, []), (.invokevirtual 189, 137, []), (.ldc 91, 139, []), (.if_icmp .ne 7, 142, [(0, 146)])]
def b_X11_workFlow_142 : List QE := [(.iconst (-1), 143, []), (.goto 10, 146, [(0, 153)])]
def b_X11_workFlow_146 : List QE := [(.bipush 12, 148, []), (.iload_n 3, 149, []), (.imul, 150, []), (.iload 4, 152, []), (.iadd, 153, [])]
def b_X11_workFlow_153 : List QE := [(.istore 5, 155, [])]
def b_X11_workFlow_155 : List QE := [(.iload 5, 157, []), (.iconst (-1), 158, []), (.if_icmp .eq 32, 161, [(0, 190)])]
def b_X11_workFlow_161 : List QE := [(.aload_n 0, 162, []), (.getfield 48, 165, []), (.sipush 144, 168, []), (.iload_n 1, 169, []), (.imul, 170, []), (.iload 5, 172, []), (.iadd, 173, []), (.dup2, 174, []), (.iaload, 175, []), (.iconst 1, 176, []), (.iadd, 177, []), (.iastore, 178, []), (.aload_n 0, 179, []), (.getfield 55, 182, []), (.iload 5, 184, []), (.iaload, 185, []), (.istore 5, 187, []), (.goto (-32), 190, [(0, 155)])]
def b_X11_workFlow_190 : List QE := [(.iinc 4 1, 193, []), (.goto (-73), 196, [(0, 120)])]
def b_X11_workFlow_196 : List QE := [(.iinc 3 1, 199, []), (.goto (-90), 202, [(0, 109)])]
def b_X11_workFlow_202 : List QE := [(.return_, 203, [])]
def L_X11_workFlow : List (Nat × Option (List QE)) := [(0, some b_X11_workFlow_0), (11, none), (19, some b_X11_workFlow_19), (22, none), (31, some b_X11_workFlow_31), (49, some b_X11_workFlow_49), (54, some b_X11_workFlow_54), (55, some b_X11_workFlow_55), (82, some b_X11_workFlow_82), (86, some b_X11_workFlow_86), (94, some b_X11_workFlow_94), (101, some b_X11_workFlow_101), (107, some b_X11_workFlow_107), (109, none), (117, some b_X11_workFlow_117), (120, none), (129, some b_X11_workFlow_129), (142, some b_X11_workFlow_142), (146, some b_X11_workFlow_146), (153, some b_X11_workFlow_153), (155, none), (161, some b_X11_workFlow_161), (190, some b_X11_workFlow_190), (196, some b_X11_workFlow_196), (202, some b_X11_workFlow_202)]
def s_X11_workFlow : Nat → Option (List QE) := q_look L_X11_workFlow
theorem s_X11_workFlow_0 : s_X11_workFlow 0 = some b_X11_workFlow_0 := id rfl
theorem s_X11_workFlow_11 : s_X11_workFlow 11 = none := id rfl
theorem s_X11_workFlow_19 : s_X11_workFlow 19 = some b_X11_workFlow_19 := id rfl
theorem s_X11_workFlow_22 : s_X11_workFlow 22 = none := id rfl
theorem s_X11_workFlow_31 : s_X11_workFlow 31 = some b_X11_workFlow_31 := id rfl
theorem s_X11_workFlow_49 : s_X11_workFlow 49 = some b_X11_workFlow_49 := id rfl
theorem s_X11_workFlow_54 : s_X11_workFlow 54 = some b_X11_workFlow_54 := id rfl
theorem s_X11_workFlow_55 : s_X11_workFlow 55 = some b_X11_workFlow_55 := id rfl
theorem s_X11_workFlow_82 : s_X11_workFlow 82 = some b_X11_workFlow_82 := id rfl
theorem s_X11_workFlow_86 : s_X11_workFlow 86 = some b_X11_workFlow_86 := id rfl
theorem s_X11_workFlow_94 : s_X11_workFlow 94 = some b_X11_workFlow_94 := id rfl
theorem s_X11_workFlow_101 : s_X11_workFlow 101 = some b_X11_workFlow_101 := id rfl
theorem s_X11_workFlow_107 : s_X11_workFlow 107 = some b_X11_workFlow_107 := id rfl
theorem s_X11_workFlow_109 : s_X11_workFlow 109 = none := id rfl
theorem s_X11_workFlow_117 : s_X11_workFlow 117 = some b_X11_workFlow_117 := id rfl
theorem s_X11_workFlow_120 : s_X11_workFlow 120 = none := id rfl
theorem s_X11_workFlow_129 : s_X11_workFlow 129 = some b_X11_workFlow_129 := id rfl
theorem s_X11_workFlow_142 : s_X11_workFlow 142 = some b_X11_workFlow_142 := id rfl
theorem s_X11_workFlow_146 : s_X11_workFlow 146 = some b_X11_workFlow_146 := id rfl
theorem s_X11_workFlow_153 : s_X11_workFlow 153 = some b_X11_workFlow_153 := id rfl
theorem s_X11_workFlow_155 : s_X11_workFlow 155 = none := id rfl
theorem s_X11_workFlow_161 : s_X11_workFlow 161 = some b_X11_workFlow_161 := id rfl
theorem s_X11_workFlow_190 : s_X11_workFlow 190 = some b_X11_workFlow_190 := id rfl
theorem s_X11_workFlow_196 : s_X11_workFlow 196 = some b_X11_workFlow_196 := id rfl
theorem s_X11_workFlow_202 : s_X11_workFlow 202 = some b_X11_workFlow_202 := id rfl
def u_X11_workFlow : QU := ([36, 13, 7, 55, 48], [], [91], [], [189, 186, 212], [], [])
theorem o_X11_workFlow : q_skok cX11_workFlow 6 u_X11_workFlow L_X11_workFlow = true := by decide +kernel
theorem o_X11_workFlow_11 : q_ok cX11_workFlow 6 u_X11_workFlow 11 b_X11_workFlow_11 = true := by decide +kernel
theorem o_X11_workFlow_109 : q_ok cX11_workFlow 6 u_X11_workFlow 109 b_X11_workFlow_109 = true := by decide +kernel
theorem o_X11_workFlow_22 : q_ok cX11_workFlow 6 u_X11_workFlow 22 b_X11_workFlow_22 = true := by decide +kernel
theorem o_X11_workFlow_120 : q_ok cX11_workFlow 6 u_X11_workFlow 120 b_X11_workFlow_120 = true := by decide +kernel
theorem o_X11_workFlow_155 : q_ok cX11_workFlow 6 u_X11_workFlow 155 b_X11_workFlow_155 = true := by decide +kernel
theorem k_X11_workFlow : q_chk RX11 fl_X11 ld_X11 u_X11_workFlow = true := by decide +kernel
def b_X11_cell_0 : List QE := [(.aload_n 0, 1, []), (.iconst 0, 2, []), (.putfield 85, 5, []), (.aload_n 0, 6, []), (.iload_n 1, 7, []), (.invokevirtual 149, 10, []), (.ifCond .eq 12, 13, [(0, 22)])]
def b_X11_cell_13 : List QE := [(.aload_n 0, 14, []), (.iload_n 2, 15, []), (.iload_n 3, 16, []), (.invokevirtual 113, 19, []), (.ifCond .ne 6, 22, [(0, 25)])]
def b_X11_cell_22 : List QE := [(.ldc 91, 24, []), (.ireturn, 25, [])]
def b_X11_cell_25 : List QE := [(.iload_n 2, 26, []), (.iload_n 3, 27, []), (.invokestatic 121, 30, []), (.istore 4, 32, []), (.aload_n 0, 33, []), (.iload_n 1, 34, []), (.iload 4, 36, []), (.invokevirtual 145, 39, []), (.iconst 0, 40, []), (.istore 5, 42, [])]
def b_X11_cell_42 : List QE := [(.iload 5, 44, []), (.iload_n 1, 45, []), (.if_icmp .gt 81, 48, [(0, 126)])]
def b_X11_cell_48 : List QE := [(.iconst 0, 49, []), (.istore 6, 51, [])]
def b_X11_cell_51 : List QE := [(.iload 6, 53, []), (.bipush 9, 55, []), (.if_icmp .ge 65, 58, [(0, 120)])]
def b_X11_cell_58 : List QE := [(.aload_n 0, 59, []), (.getfield 45, 62, []), (.iload 5, 64, []), (.iaload, 65, []), (.iload 6, 67, []), (.ishr, 68, []), (.iconst 1, 69, []), (.iand, 70, []), (.iconst 1, 71, []), (.if_icmp .ne 43, 74, [(0, 114)])]
def b_X11_cell_74 : List QE := [(.aload_n 0, 75, []), (.getfield 42, 78, []), (.bipush 9, 80, []), (.iload 5, 82, []), (.imul, 83, []), (.iload 6, 85, []), (.iadd, 86, []), (.baload, 87, []), (.ifCond .ne 27, 90, [(0, 114)])]
def b_X11_cell_90 : List QE := [(.aload_n 0, 91, []), (.getfield 42, 94, []), (.bipush 9, 96, []), (.iload 5, 98, []), (.imul, 99, []), (.iload 6, 101, []), (.iadd, 102, []), (.iconst 1, 103, []), (.bastore, 104, []), (.aload_n 0, 105, []), (.dup, 106, []), (.getfield 152, 109, []), (.iconst 1, 110, []), (.iadd, 111, []), (.putfield 152, 114, [])]
def b_X11_cell_114 : List QE := [(.iinc 6 1, 117, []), (.goto (-66), 120, [(0, 51)])]
def b_X11_cell_120 : List QE := [(.iinc 5 1, 123, []), (.goto (-81), 126, [(0, 42)])]
def b_X11_cell_126 : List QE := [(.iconst 0, 127, []), (.istore 5, 129, [])]
def b_X11_cell_129 : List QE := [(.iload 5, 131, []), (.iload_n 1, 132, []), (.if_icmp .gt 15, 135, [(0, 147)])]
def b_X11_cell_135 : List QE := [(.aload_n 0, 136, []), (.iload 5, 138, []), (.invokevirtual 215, 141, []), (.iinc 5 1, 144, []), (.goto (-15), 147, [(0, 129)])]
def b_X11_cell_147 : List QE := [(.aload_n 0, 148, []), (.iload_n 1, 149, []), (.iload_n 2, 150, []), (.iload_n 3, 151, []), (.invokevirtual 189, 154, []), (.ireturn, 155, [])]
def L_X11_cell : List (Nat × Option (List QE)) := [(0, some b_X11_cell_0), (13, some b_X11_cell_13), (22, some b_X11_cell_22), (25, some b_X11_cell_25), (42, none), (48, some b_X11_cell_48), (51, none), (58, some b_X11_cell_58), (74, some b_X11_cell_74), (90, some b_X11_cell_90), (114, some b_X11_cell_114), (120, some b_X11_cell_120), (126, some b_X11_cell_126), (129, none), (135, some b_X11_cell_135), (147, some b_X11_cell_147)]
def s_X11_cell : Nat → Option (List QE) := q_look L_X11_cell
theorem s_X11_cell_0 : s_X11_cell 0 = some b_X11_cell_0 := id rfl
theorem s_X11_cell_13 : s_X11_cell 13 = some b_X11_cell_13 := id rfl
theorem s_X11_cell_22 : s_X11_cell 22 = some b_X11_cell_22 := id rfl
theorem s_X11_cell_25 : s_X11_cell 25 = some b_X11_cell_25 := id rfl
theorem s_X11_cell_42 : s_X11_cell 42 = none := id rfl
theorem s_X11_cell_48 : s_X11_cell 48 = some b_X11_cell_48 := id rfl
theorem s_X11_cell_51 : s_X11_cell 51 = none := id rfl
theorem s_X11_cell_58 : s_X11_cell 58 = some b_X11_cell_58 := id rfl
theorem s_X11_cell_74 : s_X11_cell 74 = some b_X11_cell_74 := id rfl
theorem s_X11_cell_90 : s_X11_cell 90 = some b_X11_cell_90 := id rfl
theorem s_X11_cell_114 : s_X11_cell 114 = some b_X11_cell_114 := id rfl
theorem s_X11_cell_120 : s_X11_cell 120 = some b_X11_cell_120 := id rfl
theorem s_X11_cell_126 : s_X11_cell 126 = some b_X11_cell_126 := id rfl
theorem s_X11_cell_129 : s_X11_cell 129 = none := id rfl
theorem s_X11_cell_135 : s_X11_cell 135 = some b_X11_cell_135 := id rfl
theorem s_X11_cell_147 : s_X11_cell 147 = some b_X11_cell_147 := id rfl
def u_X11_cell : QU := ([85, 45, 42, 152], [85, 152], [91], [], [149, 113, 145, 215, 189], [121], [])
theorem o_X11_cell : q_skok cX11_cell 7 u_X11_cell L_X11_cell = true := by decide +kernel
theorem o_X11_cell_129 : q_ok cX11_cell 7 u_X11_cell 129 b_X11_cell_129 = true := by decide +kernel
theorem o_X11_cell_42 : q_ok cX11_cell 7 u_X11_cell 42 b_X11_cell_42 = true := by decide +kernel
theorem o_X11_cell_51 : q_ok cX11_cell 7 u_X11_cell 51 b_X11_cell_51 = true := by decide +kernel
theorem k_X11_cell : q_chk RX11 fl_X11 ld_X11 u_X11_cell = true := by decide +kernel
def b_X11_four_0 : List QE := [(.bipush 24, 2, []), (.istore_n 2, 3, [])]
def b_X11_four_3 : List QE := [(.iload_n 2, 4, []), (.ifCond .lt 35, 7, [(0, 39)])]
def b_X11_four_7 : List QE := [(.aload_n 0, 8, []), (.getfield 76, 11, []), (.aload_n 0, 12, []), (.getfield 218, 15, []), (.iload_n 1, 16, []), (.iload_n 2, 17, []), (.ishr, 18, []), (.sipush 255, 21, []), (.iand, 22, []), (.iastore, 23, []), (.aload_n 0, 24, []), (.dup, 25, []), (.getfield 218, 28, []), (.iconst 1, 29, []), (.iadd, 30, []), (.putfield 218, 33, []), (.iinc 2 (-8), 36, []), (.goto (-33), 39, [(0, 3)])]
def b_X11_four_39 : List QE := [(.return_, 40, [])]
def L_X11_four : List (Nat × Option (List QE)) := [(0, some b_X11_four_0), (3, none), (7, some b_X11_four_7), (39, some b_X11_four_39)]
def s_X11_four : Nat → Option (List QE) := q_look L_X11_four
theorem s_X11_four_0 : s_X11_four 0 = some b_X11_four_0 := id rfl
theorem s_X11_four_3 : s_X11_four 3 = none := id rfl
theorem s_X11_four_7 : s_X11_four 7 = some b_X11_four_7 := id rfl
theorem s_X11_four_39 : s_X11_four 39 = some b_X11_four_39 := id rfl
def u_X11_four : QU := ([76, 218], [218], [], [], [], [], [])
theorem o_X11_four : q_skok cX11_four 3 u_X11_four L_X11_four = true := by decide +kernel
theorem o_X11_four_3 : q_ok cX11_four 3 u_X11_four 3 b_X11_four_3 = true := by decide +kernel
theorem k_X11_four : q_chk RX11 fl_X11 ld_X11 u_X11_four = true := by decide +kernel
def b_X11_feed_0 : List QE := [(.aload_n 0, 1, []), (.iconst 0, 2, []), (.putfield 85, 5, []), (.aload_n 0, 6, []), (.getfield 218, 9, []), (.bipush 20, 11, []), (.iadd, 12, []), (.sipush 300, 15, []), (.if_icmp .le 5, 18, [(0, 20)])]
def b_X11_feed_18 : List QE := [(.iconst (-1), 19, []), (.ireturn, 20, [])]
def b_X11_feed_20 : List QE := [(.aload_n 0, 21, []), (.iload_n 1, 22, []), (.invokevirtual 221, 25, []), (.aload_n 0, 26, []), (.iload_n 2, 27, []), (.invokevirtual 221, 30, []), (.aload_n 0, 31, []), (.iload_n 3, 32, []), (.invokevirtual 221, 35, []), (.aload_n 0, 36, []), (.iload 4, 38, []), (.invokevirtual 221, 41, []), (.aload_n 0, 42, []), (.iload 5, 44, []), (.invokevirtual 221, 47, []), (.aload_n 0, 48, []), (.getfield 218, 51, []), (.ireturn, 52, [])]
def L_X11_feed : List (Nat × Option (List QE)) := [(0, some b_X11_feed_0), (18, some b_X11_feed_18), (20, some b_X11_feed_20)]
def s_X11_feed : Nat → Option (List QE) := q_look L_X11_feed
theorem s_X11_feed_0 : s_X11_feed 0 = some b_X11_feed_0 := id rfl
theorem s_X11_feed_18 : s_X11_feed 18 = some b_X11_feed_18 := id rfl
theorem s_X11_feed_20 : s_X11_feed 20 = some b_X11_feed_20 := id rfl
def u_X11_feed : QU := ([85, 218], [85], [], [], [221], [], [])
theorem o_X11_feed : q_skok cX11_feed 6 u_X11_feed L_X11_feed = true := by decide +kernel
theorem k_X11_feed : q_chk RX11 fl_X11 ld_X11 u_X11_feed = true := by decide +kernel
def b_X11_end_0 : List QE := [(.aload_n 0, 1, []), (.iconst 0, 2, []), (.putfield 85, 5, []), (.iload_n 1, 6, []), (.ifCond .lt 11, 9, [(0, 17)])]
def b_X11_end_9 : List QE := [(.iload_n 1, 10, []), (.aload_n 0, 11, []), (.getfield 218, 14, []), (.if_icmp .le 5, 17, [(0, 19)])]
def b_X11_end_17 : List QE := [(.iconst (-1), 18, []), (.ireturn, 19, [])]
def b_X11_end_19 : List QE := [(.aload_n 0, 20, []), (.iload_n 1, 21, []), (.putfield 218, 24, []), (.iload_n 1, 25, []), (.ireturn, 26, [])]
def L_X11_end : List (Nat × Option (List QE)) := [(0, some b_X11_end_0), (9, some b_X11_end_9), (17, some b_X11_end_17), (19, some b_X11_end_19)]
def s_X11_end : Nat → Option (List QE) := q_look L_X11_end
theorem s_X11_end_0 : s_X11_end 0 = some b_X11_end_0 := id rfl
theorem s_X11_end_9 : s_X11_end 9 = some b_X11_end_9 := id rfl
theorem s_X11_end_17 : s_X11_end 17 = some b_X11_end_17 := id rfl
theorem s_X11_end_19 : s_X11_end 19 = some b_X11_end_19 := id rfl
def u_X11_end : QU := ([85, 218], [85, 218], [], [], [], [], [])
theorem o_X11_end : q_skok cX11_end 2 u_X11_end L_X11_end = true := by decide +kernel
theorem k_X11_end : q_chk RX11 fl_X11 ld_X11 u_X11_end = true := by decide +kernel
def b_X11_isSmall_0 : List QE := [(.iload_n 0, 1, []), (.bipush 97, 3, []), (.if_icmp .lt 13, 6, [(0, 16)])]
def b_X11_isSmall_6 : List QE := [(.iload_n 0, 7, []), (.bipush 122, 9, []), (.if_icmp .gt 7, 12, [(0, 16)])]
def b_X11_isSmall_12 : List QE := [(.iconst 1, 13, []), (.goto 4, 16, [(0, 17)])]
def b_X11_isSmall_16 : List QE := [(.iconst 0, 17, [])]
def b_X11_isSmall_17 : List QE := [(.ireturn, 18, [])]
def L_X11_isSmall : List (Nat × Option (List QE)) := [(0, some b_X11_isSmall_0), (6, some b_X11_isSmall_6), (12, some b_X11_isSmall_12), (16, some b_X11_isSmall_16), (17, some b_X11_isSmall_17)]
def s_X11_isSmall : Nat → Option (List QE) := q_look L_X11_isSmall
theorem s_X11_isSmall_0 : s_X11_isSmall 0 = some b_X11_isSmall_0 := id rfl
theorem s_X11_isSmall_6 : s_X11_isSmall 6 = some b_X11_isSmall_6 := id rfl
theorem s_X11_isSmall_12 : s_X11_isSmall 12 = some b_X11_isSmall_12 := id rfl
theorem s_X11_isSmall_16 : s_X11_isSmall 16 = some b_X11_isSmall_16 := id rfl
theorem s_X11_isSmall_17 : s_X11_isSmall 17 = some b_X11_isSmall_17 := id rfl
def u_X11_isSmall : QU := ([], [], [], [], [], [], [])
theorem o_X11_isSmall : q_skok cX11_isSmall 1 u_X11_isSmall L_X11_isSmall = true := by decide +kernel
theorem k_X11_isSmall : q_chk RX11 fl_X11 ld_X11 u_X11_isSmall = true := by decide +kernel
def b_X11_isDigit_0 : List QE := [(.iload_n 0, 1, []), (.bipush 48, 3, []), (.if_icmp .lt 13, 6, [(0, 16)])]
def b_X11_isDigit_6 : List QE := [(.iload_n 0, 7, []), (.bipush 57, 9, []), (.if_icmp .gt 7, 12, [(0, 16)])]
def b_X11_isDigit_12 : List QE := [(.iconst 1, 13, []), (.goto 4, 16, [(0, 17)])]
def b_X11_isDigit_16 : List QE := [(.iconst 0, 17, [])]
def b_X11_isDigit_17 : List QE := [(.ireturn, 18, [])]
def L_X11_isDigit : List (Nat × Option (List QE)) := [(0, some b_X11_isDigit_0), (6, some b_X11_isDigit_6), (12, some b_X11_isDigit_12), (16, some b_X11_isDigit_16), (17, some b_X11_isDigit_17)]
def s_X11_isDigit : Nat → Option (List QE) := q_look L_X11_isDigit
theorem s_X11_isDigit_0 : s_X11_isDigit 0 = some b_X11_isDigit_0 := id rfl
theorem s_X11_isDigit_6 : s_X11_isDigit 6 = some b_X11_isDigit_6 := id rfl
theorem s_X11_isDigit_12 : s_X11_isDigit 12 = some b_X11_isDigit_12 := id rfl
theorem s_X11_isDigit_16 : s_X11_isDigit 16 = some b_X11_isDigit_16 := id rfl
theorem s_X11_isDigit_17 : s_X11_isDigit 17 = some b_X11_isDigit_17 := id rfl
def u_X11_isDigit : QU := ([], [], [], [], [], [], [])
theorem o_X11_isDigit : q_skok cX11_isDigit 1 u_X11_isDigit L_X11_isDigit = true := by decide +kernel
theorem k_X11_isDigit : q_chk RX11 fl_X11 ld_X11 u_X11_isDigit = true := by decide +kernel
def b_X11_next_0 : List QE := [(.aload_n 0, 1, []), (.aload_n 0, 2, []), (.getfield 224, 5, []), (.putfield 227, 8, [])]
def b_X11_next_8 : List QE := [(.aload_n 0, 9, []), (.getfield 227, 12, []), (.aload_n 0, 13, []), (.getfield 218, 16, []), (.if_icmp .ge 30, 19, [(0, 46)])]
def b_X11_next_19 : List QE := [(.aload_n 0, 20, []), (.getfield 76, 23, []), (.aload_n 0, 24, []), (.getfield 227, 27, []), (.iaload, 28, []), (.bipush 32, 30, []), (.if_icmp .ne 16, 33, [(0, 46)])]
def b_X11_next_33 : List QE := [(.aload_n 0, 34, []), (.dup, 35, []), (.getfield 227, 38, []), (.iconst 1, 39, []), (.iadd, 40, []), (.putfield 227, 43, []), (.goto (-35), 46, [(0, 8)])]
def b_X11_next_46 : List QE := [(.aload_n 0, 47, []), (.aload_n 0, 48, []), (.getfield 227, 51, []), (.putfield 224, 54, []), (.aload_n 0, 55, []), (.lconst 0, 56, []), (.putfield 230, 59, []), (.aload_n 0, 60, []), (.aload_n 0, 61, []), (.getfield 227, 64, []), (.aload_n 0, 65, []), (.getfield 218, 68, []), (.if_icmp .ne 7, 71, [(0, 75)])]
def b_X11_next_71 : List QE := [(.iconst 0, 72, []), (.goto 42, 75, [(0, 114)])]
def b_X11_next_75 : List QE := [(.aload_n 0, 76, []), (.getfield 76, 79, []), (.aload_n 0, 80, []), (.getfield 227, 83, []), (.iaload, 84, []), (.invokestatic 233, 87, []), (.ifCond .eq 7, 90, [(0, 94)])]
def b_X11_next_90 : List QE := [(.iconst 1, 91, []), (.goto 23, 94, [(0, 114)])]
def b_X11_next_94 : List QE := [(.aload_n 0, 95, []), (.getfield 76, 98, []), (.aload_n 0, 99, []), (.getfield 227, 102, []), (.iaload, 103, []), (.invokestatic 236, 106, []), (.ifCond .eq 7, 109, [(0, 113)])]
def b_X11_next_109 : List QE := [(.iconst 2, 110, []), (.goto 4, 113, [(0, 114)])]
def b_X11_next_113 : List QE := [(.iconst 3, 114, [])]
def b_X11_next_114 : List QE := [(.putfield 239, 117, []), (.aload_n 0, 118, []), (.getfield 239, 121, []), (.iconst 3, 122, []), (.if_icmp .ne 27, 125, [(0, 149)])]
def b_X11_next_125 : List QE := [(.aload_n 0, 126, []), (.aload_n 0, 127, []), (.getfield 76, 130, []), (.aload_n 0, 131, []), (.getfield 227, 134, []), (.iaload, 135, []), (.i2l, 136, []), (.putfield 230, 139, []), (.aload_n 0, 140, []), (.dup, 141, []), (.getfield 224, 144, []), (.iconst 1, 145, []), (.iadd, 146, []), (.putfield 224, 149, [])]
def b_X11_next_149 : List QE := [(.aload_n 0, 150, []), (.getfield 239, 153, []), (.iconst 1, 154, []), (.if_icmp .ne 89, 157, [(0, 243)])]
def b_X11_next_157 : List QE := [(.aload_n 0, 158, []), (.getfield 224, 161, []), (.aload_n 0, 162, []), (.getfield 218, 165, []), (.if_icmp .ge 78, 168, [(0, 243)])]
def b_X11_next_168 : List QE := [(.aload_n 0, 169, []), (.getfield 76, 172, []), (.aload_n 0, 173, []), (.getfield 224, 176, []), (.iaload, 177, []), (.invokestatic 233, 180, []), (.ifCond .eq 63, 183, [(0, 243)])]
def b_X11_next_183 : List QE := [(.aload_n 0, 184, []), (.aload_n 0, 185, []), (.getfield 224, 188, []), (.aload_n 0, 189, []), (.getfield 227, 192, []), (.isub, 193, []), (.bipush 6, 195, []), (.if_icmp .ge 29, 198, [(0, 224)])]
def b_X11_next_198 : List QE := [(.aload_n 0, 199, []), (.getfield 230, 202, []), (.ldc2_w 242, 205, []), (.lmul, 206, []), (.aload_n 0, 207, []), (.getfield 76, 210, []), (.aload_n 0, 211, []), (.getfield 224, 214, []), (.iaload, 215, []), (.i2l, 216, []), (.ladd, 217, []), (.ldc2_w 244, 220, []), (.lsub, 221, []), (.goto 6, 224, [(0, 227)])]
def b_X11_next_224 : List QE := [(.ldc2_w 204, 227, [])]
def b_X11_next_227 : List QE := [(.putfield 230, 230, []), (.aload_n 0, 231, []), (.dup, 232, []), (.getfield 224, 235, []), (.iconst 1, 236, []), (.iadd, 237, []), (.putfield 224, 240, []), (.goto (-91), 243, [(0, 149)])]
def b_X11_next_243 : List QE := [(.aload_n 0, 244, []), (.getfield 239, 247, []), (.iconst 2, 248, []), (.if_icmp .ne 87, 251, [(0, 335)])]
def b_X11_next_251 : List QE := [(.aload_n 0, 252, []), (.getfield 224, 255, []), (.aload_n 0, 256, []), (.getfield 218, 259, []), (.if_icmp .ge 76, 262, [(0, 335)])]
def b_X11_next_262 : List QE := [(.aload_n 0, 263, []), (.getfield 76, 266, []), (.aload_n 0, 267, []), (.getfield 224, 270, []), (.iaload, 271, []), (.invokestatic 236, 274, []), (.ifCond .eq 61, 277, [(0, 335)])]
def b_X11_next_277 : List QE := [(.aload_n 0, 278, []), (.aload_n 0, 279, []), (.getfield 230, 282, []), (.ldc2_w 111, 285, []), (.lcmp, 286, []), (.ifCond .le 10, 289, [(0, 296)])]
def b_X11_next_289 : List QE := [(.aload_n 0, 290, []), (.getfield 230, 293, []), (.goto 26, 296, [(0, 319)])]
def b_X11_next_296 : List QE := [(.aload_n 0, 297, []), (.getfield 230, 300, []), (.ldc2_w 246, 303, []), (.lmul, 304, []), (.aload_n 0, 305, []), (.getfield 76, 308, []), (.aload_n 0, 309, []), (.getfield 224, 312, []), (.iaload, 313, []), (.i2l, 314, []), (.ladd, 315, []), (.ldc2_w 248, 318, []), (.lsub, 319, [])]
def b_X11_next_319 : List QE := [(.putfield 230, 322, []), (.aload_n 0, 323, []), (.dup, 324, []), (.getfield 224, 327, []), (.iconst 1, 328, []), (.iadd, 329, []), (.putfield 224, 332, []), (.goto (-89), 335, [(0, 243)])]
def b_X11_next_335 : List QE := [(.return_, 336, [])]
def L_X11_next : List (Nat × Option (List QE)) := [(0, some b_X11_next_0), (8, none), (19, some b_X11_next_19), (33, some b_X11_next_33), (46, some b_X11_next_46), (71, some b_X11_next_71), (75, some b_X11_next_75), (90, some b_X11_next_90), (94, some b_X11_next_94), (109, some b_X11_next_109), (113, some b_X11_next_113), (114, some b_X11_next_114), (125, some b_X11_next_125), (149, none), (157, some b_X11_next_157), (168, some b_X11_next_168), (183, some b_X11_next_183), (198, some b_X11_next_198), (224, some b_X11_next_224), (227, some b_X11_next_227), (243, none), (251, some b_X11_next_251), (262, some b_X11_next_262), (277, some b_X11_next_277), (289, some b_X11_next_289), (296, some b_X11_next_296), (319, some b_X11_next_319), (335, some b_X11_next_335)]
def s_X11_next : Nat → Option (List QE) := q_look L_X11_next
theorem s_X11_next_0 : s_X11_next 0 = some b_X11_next_0 := id rfl
theorem s_X11_next_8 : s_X11_next 8 = none := id rfl
theorem s_X11_next_19 : s_X11_next 19 = some b_X11_next_19 := id rfl
theorem s_X11_next_33 : s_X11_next 33 = some b_X11_next_33 := id rfl
theorem s_X11_next_46 : s_X11_next 46 = some b_X11_next_46 := id rfl
theorem s_X11_next_71 : s_X11_next 71 = some b_X11_next_71 := id rfl
theorem s_X11_next_75 : s_X11_next 75 = some b_X11_next_75 := id rfl
theorem s_X11_next_90 : s_X11_next 90 = some b_X11_next_90 := id rfl
theorem s_X11_next_94 : s_X11_next 94 = some b_X11_next_94 := id rfl
theorem s_X11_next_109 : s_X11_next 109 = some b_X11_next_109 := id rfl
theorem s_X11_next_113 : s_X11_next 113 = some b_X11_next_113 := id rfl
theorem s_X11_next_114 : s_X11_next 114 = some b_X11_next_114 := id rfl
theorem s_X11_next_125 : s_X11_next 125 = some b_X11_next_125 := id rfl
theorem s_X11_next_149 : s_X11_next 149 = none := id rfl
theorem s_X11_next_157 : s_X11_next 157 = some b_X11_next_157 := id rfl
theorem s_X11_next_168 : s_X11_next 168 = some b_X11_next_168 := id rfl
theorem s_X11_next_183 : s_X11_next 183 = some b_X11_next_183 := id rfl
theorem s_X11_next_198 : s_X11_next 198 = some b_X11_next_198 := id rfl
theorem s_X11_next_224 : s_X11_next 224 = some b_X11_next_224 := id rfl
theorem s_X11_next_227 : s_X11_next 227 = some b_X11_next_227 := id rfl
theorem s_X11_next_243 : s_X11_next 243 = none := id rfl
theorem s_X11_next_251 : s_X11_next 251 = some b_X11_next_251 := id rfl
theorem s_X11_next_262 : s_X11_next 262 = some b_X11_next_262 := id rfl
theorem s_X11_next_277 : s_X11_next 277 = some b_X11_next_277 := id rfl
theorem s_X11_next_289 : s_X11_next 289 = some b_X11_next_289 := id rfl
theorem s_X11_next_296 : s_X11_next 296 = some b_X11_next_296 := id rfl
theorem s_X11_next_319 : s_X11_next 319 = some b_X11_next_319 := id rfl
theorem s_X11_next_335 : s_X11_next 335 = some b_X11_next_335 := id rfl
def u_X11_next : QU := ([224, 227, 218, 76, 230, 239], [227, 224, 230, 239], [242, 244, 204, 111, 246, 248], [], [], [233, 236], [])
theorem o_X11_next : q_skok cX11_next 1 u_X11_next L_X11_next = true := by decide +kernel
theorem o_X11_next_8 : q_ok cX11_next 1 u_X11_next 8 b_X11_next_8 = true := by decide +kernel
theorem o_X11_next_243 : q_ok cX11_next 1 u_X11_next 243 b_X11_next_243 = true := by decide +kernel
theorem o_X11_next_149 : q_ok cX11_next 1 u_X11_next 149 b_X11_next_149 = true := by decide +kernel
theorem k_X11_next : q_chk RX11 fl_X11 ld_X11 u_X11_next = true := by decide +kernel
def b_X11_isWord_0 : List QE := [(.iload_n 1, 1, []), (.i2l, 2, []), (.ldc2_w 244, 5, []), (.lsub, 6, []), (.ldc2_w 242, 9, []), (.lmul, 10, []), (.iload_n 2, 11, []), (.i2l, 12, []), (.ladd, 13, []), (.ldc2_w 244, 16, []), (.lsub, 17, []), (.lstore 6, 19, []), (.iload_n 3, 20, []), (.ifCond .ne 8, 23, [(0, 28)])]
def b_X11_isWord_23 : List QE := [(.lload 6, 25, []), (.goto 16, 28, [(0, 41)])]
def b_X11_isWord_28 : List QE := [(.lload 6, 30, []), (.ldc2_w 242, 33, []), (.lmul, 34, []), (.iload_n 3, 35, []), (.i2l, 36, []), (.ladd, 37, []), (.ldc2_w 244, 40, []), (.lsub, 41, [])]
def b_X11_isWord_41 : List QE := [(.lstore 6, 43, []), (.iload 4, 45, []), (.ifCond .ne 8, 48, [(0, 53)])]
def b_X11_isWord_48 : List QE := [(.lload 6, 50, []), (.goto 17, 53, [(0, 67)])]
def b_X11_isWord_53 : List QE := [(.lload 6, 55, []), (.ldc2_w 242, 58, []), (.lmul, 59, []), (.iload 4, 61, []), (.i2l, 62, []), (.ladd, 63, []), (.ldc2_w 244, 66, []), (.lsub, 67, [])]
def b_X11_isWord_67 : List QE := [(.lstore 6, 69, []), (.iload 5, 71, []), (.ifCond .ne 8, 74, [(0, 79)])]
def b_X11_isWord_74 : List QE := [(.lload 6, 76, []), (.goto 17, 79, [(0, 93)])]
def b_X11_isWord_79 : List QE := [(.lload 6, 81, []), (.ldc2_w 242, 84, []), (.lmul, 85, []), (.iload 5, 87, []), (.i2l, 88, []), (.ladd, 89, []), (.ldc2_w 244, 92, []), (.lsub, 93, [])]
def b_X11_isWord_93 : List QE := [(.lstore 6, 95, []), (.aload_n 0, 96, []), (.getfield 239, 99, []), (.iconst 1, 100, []), (.if_icmp .ne 17, 103, [(0, 117)])]
def b_X11_isWord_103 : List QE := [(.aload_n 0, 104, []), (.getfield 230, 107, []), (.lload 6, 109, []), (.lcmp, 110, []), (.ifCond .ne 7, 113, [(0, 117)])]
def b_X11_isWord_113 : List QE := [(.iconst 1, 114, []), (.goto 4, 117, [(0, 118)])]
def b_X11_isWord_117 : List QE := [(.iconst 0, 118, [])]
def b_X11_isWord_118 : List QE := [(.ireturn, 119, [])]
def L_X11_isWord : List (Nat × Option (List QE)) := [(0, some b_X11_isWord_0), (23, some b_X11_isWord_23), (28, some b_X11_isWord_28), (41, some b_X11_isWord_41), (48, some b_X11_isWord_48), (53, some b_X11_isWord_53), (67, some b_X11_isWord_67), (74, some b_X11_isWord_74), (79, some b_X11_isWord_79), (93, some b_X11_isWord_93), (103, some b_X11_isWord_103), (113, some b_X11_isWord_113), (117, some b_X11_isWord_117), (118, some b_X11_isWord_118)]
def s_X11_isWord : Nat → Option (List QE) := q_look L_X11_isWord
theorem s_X11_isWord_0 : s_X11_isWord 0 = some b_X11_isWord_0 := id rfl
theorem s_X11_isWord_23 : s_X11_isWord 23 = some b_X11_isWord_23 := id rfl
theorem s_X11_isWord_28 : s_X11_isWord 28 = some b_X11_isWord_28 := id rfl
theorem s_X11_isWord_41 : s_X11_isWord 41 = some b_X11_isWord_41 := id rfl
theorem s_X11_isWord_48 : s_X11_isWord 48 = some b_X11_isWord_48 := id rfl
theorem s_X11_isWord_53 : s_X11_isWord 53 = some b_X11_isWord_53 := id rfl
theorem s_X11_isWord_67 : s_X11_isWord 67 = some b_X11_isWord_67 := id rfl
theorem s_X11_isWord_74 : s_X11_isWord 74 = some b_X11_isWord_74 := id rfl
theorem s_X11_isWord_79 : s_X11_isWord 79 = some b_X11_isWord_79 := id rfl
theorem s_X11_isWord_93 : s_X11_isWord 93 = some b_X11_isWord_93 := id rfl
theorem s_X11_isWord_103 : s_X11_isWord 103 = some b_X11_isWord_103 := id rfl
theorem s_X11_isWord_113 : s_X11_isWord 113 = some b_X11_isWord_113 := id rfl
theorem s_X11_isWord_117 : s_X11_isWord 117 = some b_X11_isWord_117 := id rfl
theorem s_X11_isWord_118 : s_X11_isWord 118 = some b_X11_isWord_118 := id rfl
def u_X11_isWord : QU := ([239, 230], [], [244, 242], [], [], [], [])
theorem o_X11_isWord : q_skok cX11_isWord 8 u_X11_isWord L_X11_isWord = true := by decide +kernel
theorem k_X11_isWord : q_chk RX11 fl_X11 ld_X11 u_X11_isWord = true := by decide +kernel
def b_X11_isSign_0 : List QE := [(.aload_n 0, 1, []), (.getfield 239, 4, []), (.iconst 3, 5, []), (.if_icmp .ne 17, 8, [(0, 22)])]
def b_X11_isSign_8 : List QE := [(.aload_n 0, 9, []), (.getfield 230, 12, []), (.iload_n 1, 13, []), (.i2l, 14, []), (.lcmp, 15, []), (.ifCond .ne 7, 18, [(0, 22)])]
def b_X11_isSign_18 : List QE := [(.iconst 1, 19, []), (.goto 4, 22, [(0, 23)])]
def b_X11_isSign_22 : List QE := [(.iconst 0, 23, [])]
def b_X11_isSign_23 : List QE := [(.ireturn, 24, [])]
def L_X11_isSign : List (Nat × Option (List QE)) := [(0, some b_X11_isSign_0), (8, some b_X11_isSign_8), (18, some b_X11_isSign_18), (22, some b_X11_isSign_22), (23, some b_X11_isSign_23)]
def s_X11_isSign : Nat → Option (List QE) := q_look L_X11_isSign
theorem s_X11_isSign_0 : s_X11_isSign 0 = some b_X11_isSign_0 := id rfl
theorem s_X11_isSign_8 : s_X11_isSign 8 = some b_X11_isSign_8 := id rfl
theorem s_X11_isSign_18 : s_X11_isSign 18 = some b_X11_isSign_18 := id rfl
theorem s_X11_isSign_22 : s_X11_isSign 22 = some b_X11_isSign_22 := id rfl
theorem s_X11_isSign_23 : s_X11_isSign 23 = some b_X11_isSign_23 := id rfl
def u_X11_isSign : QU := ([239, 230], [], [], [], [], [], [])
theorem o_X11_isSign : q_skok cX11_isSign 2 u_X11_isSign L_X11_isSign = true := by decide +kernel
theorem k_X11_isSign : q_chk RX11 fl_X11 ld_X11 u_X11_isSign = true := by decide +kernel
def b_X11_must_0 : List QE := [(.aload_n 0, 1, []), (.getfield 250, 4, []), (.ifCond .ne 20, 7, [(0, 24)])]
def b_X11_must_7 : List QE := [(.iload_n 1, 8, []), (.ifCond .ne 16, 11, [(0, 24)])]
def b_X11_must_11 : List QE := [(.aload_n 0, 12, []), (.iconst 1, 13, []), (.putfield 250, 16, []), (.aload_n 0, 17, []), (.aload_n 0, 18, []), (.getfield 227, 21, []), (.putfield 79, 24, [])]
def b_X11_must_24 : List QE := [(.aload_n 0, 25, []), (.getfield 250, 28, []), (.ifCond .ne 7, 31, [(0, 35)])]
def b_X11_must_31 : List QE := [(.aload_n 0, 32, []), (.invokevirtual 254, 35, [])]
def b_X11_must_35 : List QE := [(.return_, 36, [])]
def L_X11_must : List (Nat × Option (List QE)) := [(0, some b_X11_must_0), (7, some b_X11_must_7), (11, some b_X11_must_11), (24, some b_X11_must_24), (31, some b_X11_must_31), (35, some b_X11_must_35)]
def s_X11_must : Nat → Option (List QE) := q_look L_X11_must
theorem s_X11_must_0 : s_X11_must 0 = some b_X11_must_0 := id rfl
theorem s_X11_must_7 : s_X11_must 7 = some b_X11_must_7 := id rfl
theorem s_X11_must_11 : s_X11_must 11 = some b_X11_must_11 := id rfl
theorem s_X11_must_24 : s_X11_must 24 = some b_X11_must_24 := id rfl
theorem s_X11_must_31 : s_X11_must 31 = some b_X11_must_31 := id rfl
theorem s_X11_must_35 : s_X11_must 35 = some b_X11_must_35 := id rfl
def u_X11_must : QU := ([250, 227, 79], [250, 79], [], [], [254], [], [])
theorem o_X11_must : q_skok cX11_must 2 u_X11_must L_X11_must = true := by decide +kernel
theorem k_X11_must : q_chk RX11 fl_X11 ld_X11 u_X11_must = true := by decide +kernel
def b_X11_number_0 : List QE := [(.aload_n 0, 1, []), (.getfield 230, 4, []), (.l2i, 5, []), (.istore 5, 7, []), (.aload_n 0, 8, []), (.aload_n 0, 9, []), (.getfield 239, 12, []), (.iconst 2, 13, []), (.if_icmp .ne 19, 16, [(0, 32)])]
def b_X11_number_16 : List QE := [(.aload_n 0, 17, []), (.getfield 230, 20, []), (.lload_n 1, 21, []), (.lload_n 3, 22, []), (.invokestatic 95, 25, []), (.ifCond .eq 7, 28, [(0, 32)])]
def b_X11_number_28 : List QE := [(.iconst 1, 29, []), (.goto 4, 32, [(0, 33)])]
def b_X11_number_32 : List QE := [(.iconst 0, 33, [])]
def b_X11_number_33 : List QE := [(.invokevirtual 257, 36, []), (.iload 5, 38, []), (.ireturn, 39, [])]
def L_X11_number : List (Nat × Option (List QE)) := [(0, some b_X11_number_0), (16, some b_X11_number_16), (28, some b_X11_number_28), (32, some b_X11_number_32), (33, some b_X11_number_33)]
def s_X11_number : Nat → Option (List QE) := q_look L_X11_number
theorem s_X11_number_0 : s_X11_number 0 = some b_X11_number_0 := id rfl
theorem s_X11_number_16 : s_X11_number 16 = some b_X11_number_16 := id rfl
theorem s_X11_number_28 : s_X11_number 28 = some b_X11_number_28 := id rfl
theorem s_X11_number_32 : s_X11_number 32 = some b_X11_number_32 := id rfl
theorem s_X11_number_33 : s_X11_number 33 = some b_X11_number_33 := id rfl
def u_X11_number : QU := ([230, 239], [], [], [], [257], [95], [])
theorem o_X11_number : q_skok cX11_number 6 u_X11_number L_X11_number = true := by decide +kernel
theorem k_X11_number : q_chk RX11 fl_X11 ld_X11 u_X11_number = true := by decide +kernel
def b_X11_isName_0 : List QE := [(.aload_n 0, 1, []), (.getfield 239, 4, []), (.iconst 1, 5, []), (.if_icmp .ne 20, 8, [(0, 25)])]
def b_X11_isName_8 : List QE := [(.aload_n 0, 9, []), (.getfield 224, 12, []), (.aload_n 0, 13, []), (.getfield 227, 16, []), (.isub, 17, []), (.iconst 1, 18, []), (.if_icmp .ne 7, 21, [(0, 25)])]
def b_X11_isName_21 : List QE := [(.iconst 1, 22, []), (.goto 4, 25, [(0, 26)])]
def b_X11_isName_25 : List QE := [(.iconst 0, 26, [])]
def b_X11_isName_26 : List QE := [(.ireturn, 27, [])]
def L_X11_isName : List (Nat × Option (List QE)) := [(0, some b_X11_isName_0), (8, some b_X11_isName_8), (21, some b_X11_isName_21), (25, some b_X11_isName_25), (26, some b_X11_isName_26)]
def s_X11_isName : Nat → Option (List QE) := q_look L_X11_isName
theorem s_X11_isName_0 : s_X11_isName 0 = some b_X11_isName_0 := id rfl
theorem s_X11_isName_8 : s_X11_isName 8 = some b_X11_isName_8 := id rfl
theorem s_X11_isName_21 : s_X11_isName 21 = some b_X11_isName_21 := id rfl
theorem s_X11_isName_25 : s_X11_isName 25 = some b_X11_isName_25 := id rfl
theorem s_X11_isName_26 : s_X11_isName 26 = some b_X11_isName_26 := id rfl
def u_X11_isName : QU := ([239, 224, 227], [], [], [], [], [], [])
theorem o_X11_isName : q_skok cX11_isName 1 u_X11_isName L_X11_isName = true := by decide +kernel
theorem k_X11_isName : q_chk RX11 fl_X11 ld_X11 u_X11_isName = true := by decide +kernel
def b_X11_name_0 : List QE := [(.aload_n 0, 1, []), (.invokevirtual 261, 4, []), (.ifCond .eq 23, 7, [(0, 27)])]
def b_X11_name_7 : List QE := [(.aload_n 0, 8, []), (.getfield 73, 11, []), (.aload_n 0, 12, []), (.getfield 76, 15, []), (.aload_n 0, 16, []), (.getfield 227, 19, []), (.iaload, 20, []), (.bipush 97, 22, []), (.isub, 23, []), (.iaload, 24, []), (.goto 4, 27, [(0, 28)])]
def b_X11_name_27 : List QE := [(.iconst (-1), 28, [])]
def b_X11_name_28 : List QE := [(.istore_n 3, 29, []), (.aload_n 0, 30, []), (.iload_n 3, 31, []), (.iconst (-1), 32, []), (.if_icmp .eq 7, 35, [(0, 39)])]
def b_X11_name_35 : List QE := [(.iconst 1, 36, []), (.goto 4, 39, [(0, 40)])]
def b_X11_name_39 : List QE := [(.iconst 0, 40, [])]
def b_X11_name_40 : List QE := [(.invokevirtual 257, 43, []), (.aload_n 0, 44, []), (.getfield 250, 47, []), (.ifCond .ne 23, 50, [(0, 70)])]
def b_X11_name_50 : List QE := [(.aload_n 0, 51, []), (.getfield 67, 54, []), (.iconst 3, 55, []), (.iload_n 1, 56, []), (.imul, 57, []), (.iload_n 2, 58, []), (.iadd, 59, []), (.iload_n 3, 60, []), (.iastore, 61, []), (.aload_n 0, 62, []), (.getfield 70, 65, []), (.iload_n 1, 66, []), (.iload_n 2, 67, []), (.iconst 1, 68, []), (.iadd, 69, []), (.iastore, 70, [])]
def b_X11_name_70 : List QE := [(.return_, 71, [])]
def L_X11_name : List (Nat × Option (List QE)) := [(0, some b_X11_name_0), (7, some b_X11_name_7), (27, some b_X11_name_27), (28, some b_X11_name_28), (35, some b_X11_name_35), (39, some b_X11_name_39), (40, some b_X11_name_40), (50, some b_X11_name_50), (70, some b_X11_name_70)]
def s_X11_name : Nat → Option (List QE) := q_look L_X11_name
theorem s_X11_name_0 : s_X11_name 0 = some b_X11_name_0 := id rfl
theorem s_X11_name_7 : s_X11_name 7 = some b_X11_name_7 := id rfl
theorem s_X11_name_27 : s_X11_name 27 = some b_X11_name_27 := id rfl
theorem s_X11_name_28 : s_X11_name 28 = some b_X11_name_28 := id rfl
theorem s_X11_name_35 : s_X11_name 35 = some b_X11_name_35 := id rfl
theorem s_X11_name_39 : s_X11_name 39 = some b_X11_name_39 := id rfl
theorem s_X11_name_40 : s_X11_name 40 = some b_X11_name_40 := id rfl
theorem s_X11_name_50 : s_X11_name 50 = some b_X11_name_50 := id rfl
theorem s_X11_name_70 : s_X11_name 70 = some b_X11_name_70 := id rfl
def u_X11_name : QU := ([73, 76, 227, 250, 67, 70], [], [], [], [261, 257], [], [])
theorem o_X11_name : q_skok cX11_name 4 u_X11_name L_X11_name = true := by decide +kernel
theorem k_X11_name : q_chk RX11 fl_X11 ld_X11 u_X11_name = true := by decide +kernel
def b_X11_kindAt_0 : List QE := [(.aload_n 0, 1, []), (.bipush 115, 3, []), (.bipush 104, 5, []), (.bipush 101, 7, []), (.bipush 101, 9, []), (.bipush 116, 11, []), (.invokevirtual 265, 14, []), (.ifCond .ne 34, 17, [(0, 48)])]
def b_X11_kindAt_17 : List QE := [(.aload_n 0, 18, []), (.bipush 97, 20, []), (.bipush 100, 22, []), (.bipush 100, 24, []), (.iconst 0, 25, []), (.iconst 0, 26, []), (.invokevirtual 265, 29, []), (.ifCond .ne 19, 32, [(0, 48)])]
def b_X11_kindAt_32 : List QE := [(.aload_n 0, 33, []), (.bipush 108, 35, []), (.bipush 101, 37, []), (.bipush 115, 39, []), (.bipush 115, 41, []), (.iconst 0, 42, []), (.invokevirtual 265, 45, []), (.ifCond .eq 45, 48, [(0, 90)])]
def b_X11_kindAt_48 : List QE := [(.aload_n 0, 49, []), (.bipush 115, 51, []), (.bipush 104, 53, []), (.bipush 101, 55, []), (.bipush 101, 57, []), (.bipush 116, 59, []), (.invokevirtual 265, 62, []), (.ifCond .eq 7, 65, [(0, 69)])]
def b_X11_kindAt_65 : List QE := [(.iconst 0, 66, []), (.goto 23, 69, [(0, 89)])]
def b_X11_kindAt_69 : List QE := [(.aload_n 0, 70, []), (.bipush 97, 72, []), (.bipush 100, 74, []), (.bipush 100, 76, []), (.iconst 0, 77, []), (.iconst 0, 78, []), (.invokevirtual 265, 81, []), (.ifCond .eq 7, 84, [(0, 88)])]
def b_X11_kindAt_84 : List QE := [(.iconst 1, 85, []), (.goto 4, 88, [(0, 89)])]
def b_X11_kindAt_88 : List QE := [(.iconst 2, 89, [])]
def b_X11_kindAt_89 : List QE := [(.ireturn, 90, [])]
def b_X11_kindAt_90 : List QE := [(.aload_n 0, 91, []), (.bipush 116, 93, []), (.bipush 105, 95, []), (.bipush 109, 97, []), (.bipush 101, 99, []), (.bipush 115, 101, []), (.invokevirtual 265, 104, []), (.ifCond .ne 36, 107, [(0, 140)])]
def b_X11_kindAt_107 : List QE := [(.aload_n 0, 108, []), (.bipush 108, 110, []), (.bipush 101, 112, []), (.bipush 97, 114, []), (.bipush 115, 116, []), (.bipush 116, 118, []), (.invokevirtual 265, 121, []), (.ifCond .ne 19, 124, [(0, 140)])]
def b_X11_kindAt_124 : List QE := [(.aload_n 0, 125, []), (.bipush 109, 127, []), (.bipush 111, 129, []), (.bipush 115, 131, []), (.bipush 116, 133, []), (.iconst 0, 134, []), (.invokevirtual 265, 137, []), (.ifCond .eq 46, 140, [(0, 183)])]
def b_X11_kindAt_140 : List QE := [(.aload_n 0, 141, []), (.bipush 116, 143, []), (.bipush 105, 145, []), (.bipush 109, 147, []), (.bipush 101, 149, []), (.bipush 115, 151, []), (.invokevirtual 265, 154, []), (.ifCond .eq 7, 157, [(0, 161)])]
def b_X11_kindAt_157 : List QE := [(.iconst 3, 158, []), (.goto 24, 161, [(0, 182)])]
def b_X11_kindAt_161 : List QE := [(.aload_n 0, 162, []), (.bipush 109, 164, []), (.bipush 111, 166, []), (.bipush 115, 168, []), (.bipush 116, 170, []), (.iconst 0, 171, []), (.invokevirtual 265, 174, []), (.ifCond .eq 7, 177, [(0, 181)])]
def b_X11_kindAt_177 : List QE := [(.iconst 5, 178, []), (.goto 4, 181, [(0, 182)])]
def b_X11_kindAt_181 : List QE := [(.iconst 4, 182, [])]
def b_X11_kindAt_182 : List QE := [(.ireturn, 183, [])]
def b_X11_kindAt_183 : List QE := [(.aload_n 0, 184, []), (.bipush 119, 186, []), (.bipush 104, 188, []), (.bipush 101, 190, []), (.bipush 114, 192, []), (.bipush 101, 194, []), (.invokevirtual 265, 197, []), (.ifCond .ne 32, 200, [(0, 229)])]
def b_X11_kindAt_200 : List QE := [(.aload_n 0, 201, []), (.bipush 119, 203, []), (.bipush 97, 205, []), (.bipush 121, 207, []), (.iconst 0, 208, []), (.iconst 0, 209, []), (.invokevirtual 265, 212, []), (.ifCond .ne 17, 215, [(0, 229)])]
def b_X11_kindAt_215 : List QE := [(.aload_n 0, 216, []), (.bipush 105, 218, []), (.bipush 102, 220, []), (.iconst 0, 221, []), (.iconst 0, 222, []), (.iconst 0, 223, []), (.invokevirtual 265, 226, []), (.ifCond .eq 48, 229, [(0, 274)])]
def b_X11_kindAt_229 : List QE := [(.aload_n 0, 230, []), (.bipush 119, 232, []), (.bipush 104, 234, []), (.bipush 101, 236, []), (.bipush 114, 238, []), (.bipush 101, 240, []), (.invokevirtual 265, 243, []), (.ifCond .eq 8, 246, [(0, 251)])]
def b_X11_kindAt_246 : List QE := [(.bipush 6, 248, []), (.goto 25, 251, [(0, 273)])]
def b_X11_kindAt_251 : List QE := [(.aload_n 0, 252, []), (.bipush 119, 254, []), (.bipush 97, 256, []), (.bipush 121, 258, []), (.iconst 0, 259, []), (.iconst 0, 260, []), (.invokevirtual 265, 263, []), (.ifCond .eq 8, 266, [(0, 271)])]
def b_X11_kindAt_266 : List QE := [(.bipush 7, 268, []), (.goto 5, 271, [(0, 273)])]
def b_X11_kindAt_271 : List QE := [(.bipush 8, 273, [])]
def b_X11_kindAt_273 : List QE := [(.ireturn, 274, [])]
def b_X11_kindAt_274 : List QE := [(.aload_n 0, 275, []), (.bipush 102, 277, []), (.bipush 105, 279, []), (.bipush 108, 281, []), (.bipush 108, 283, []), (.iconst 0, 284, []), (.invokevirtual 265, 287, []), (.ifCond .ne 19, 290, [(0, 306)])]
def b_X11_kindAt_290 : List QE := [(.aload_n 0, 291, []), (.bipush 110, 293, []), (.bipush 101, 295, []), (.bipush 97, 297, []), (.bipush 114, 299, []), (.iconst 0, 300, []), (.invokevirtual 265, 303, []), (.ifCond .eq 27, 306, [(0, 330)])]
def b_X11_kindAt_306 : List QE := [(.aload_n 0, 307, []), (.bipush 102, 309, []), (.bipush 105, 311, []), (.bipush 108, 313, []), (.bipush 108, 315, []), (.iconst 0, 316, []), (.invokevirtual 265, 319, []), (.ifCond .eq 8, 322, [(0, 327)])]
def b_X11_kindAt_322 : List QE := [(.bipush 9, 324, []), (.goto 5, 327, [(0, 329)])]
def b_X11_kindAt_327 : List QE := [(.bipush 10, 329, [])]
def b_X11_kindAt_329 : List QE := [(.ireturn, 330, [])]
def b_X11_kindAt_330 : List QE := [(.aload_n 0, 331, []), (.bipush 122, 333, []), (.bipush 111, 335, []), (.bipush 110, 337, []), (.bipush 101, 339, []), (.iconst 0, 340, []), (.invokevirtual 265, 343, []), (.ifCond .eq 8, 346, [(0, 351)])]
def b_X11_kindAt_346 : List QE := [(.bipush 11, 348, []), (.goto 25, 351, [(0, 373)])]
def b_X11_kindAt_351 : List QE := [(.aload_n 0, 352, []), (.bipush 102, 354, []), (.bipush 108, 356, []), (.bipush 111, 358, []), (.bipush 119, 360, []), (.iconst 0, 361, []), (.invokevirtual 265, 364, []), (.ifCond .eq 8, 367, [(0, 372)])]
def b_X11_kindAt_367 : List QE := [(.bipush 12, 369, []), (.goto 4, 372, [(0, 373)])]
def b_X11_kindAt_372 : List QE := [(.iconst (-1), 373, [])]
def b_X11_kindAt_373 : List QE := [(.ireturn, 374, [])]
def L_X11_kindAt : List (Nat × Option (List QE)) := [(0, some b_X11_kindAt_0), (17, some b_X11_kindAt_17), (32, some b_X11_kindAt_32), (48, some b_X11_kindAt_48), (65, some b_X11_kindAt_65), (69, some b_X11_kindAt_69), (84, some b_X11_kindAt_84), (88, some b_X11_kindAt_88), (89, some b_X11_kindAt_89), (90, some b_X11_kindAt_90), (107, some b_X11_kindAt_107), (124, some b_X11_kindAt_124), (140, some b_X11_kindAt_140), (157, some b_X11_kindAt_157), (161, some b_X11_kindAt_161), (177, some b_X11_kindAt_177), (181, some b_X11_kindAt_181), (182, some b_X11_kindAt_182), (183, some b_X11_kindAt_183), (200, some b_X11_kindAt_200), (215, some b_X11_kindAt_215), (229, some b_X11_kindAt_229), (246, some b_X11_kindAt_246), (251, some b_X11_kindAt_251), (266, some b_X11_kindAt_266), (271, some b_X11_kindAt_271), (273, some b_X11_kindAt_273), (274, some b_X11_kindAt_274), (290, some b_X11_kindAt_290), (306, some b_X11_kindAt_306), (322, some b_X11_kindAt_322), (327, some b_X11_kindAt_327), (329, some b_X11_kindAt_329), (330, some b_X11_kindAt_330), (346, some b_X11_kindAt_346), (351, some b_X11_kindAt_351), (367, some b_X11_kindAt_367), (372, some b_X11_kindAt_372), (373, some b_X11_kindAt_373)]
def s_X11_kindAt : Nat → Option (List QE) := q_look L_X11_kindAt
theorem s_X11_kindAt_0 : s_X11_kindAt 0 = some b_X11_kindAt_0 := id rfl
theorem s_X11_kindAt_17 : s_X11_kindAt 17 = some b_X11_kindAt_17 := id rfl
theorem s_X11_kindAt_32 : s_X11_kindAt 32 = some b_X11_kindAt_32 := id rfl
theorem s_X11_kindAt_48 : s_X11_kindAt 48 = some b_X11_kindAt_48 := id rfl
theorem s_X11_kindAt_65 : s_X11_kindAt 65 = some b_X11_kindAt_65 := id rfl
theorem s_X11_kindAt_69 : s_X11_kindAt 69 = some b_X11_kindAt_69 := id rfl
theorem s_X11_kindAt_84 : s_X11_kindAt 84 = some b_X11_kindAt_84 := id rfl
theorem s_X11_kindAt_88 : s_X11_kindAt 88 = some b_X11_kindAt_88 := id rfl
theorem s_X11_kindAt_89 : s_X11_kindAt 89 = some b_X11_kindAt_89 := id rfl
theorem s_X11_kindAt_90 : s_X11_kindAt 90 = some b_X11_kindAt_90 := id rfl
theorem s_X11_kindAt_107 : s_X11_kindAt 107 = some b_X11_kindAt_107 := id rfl
theorem s_X11_kindAt_124 : s_X11_kindAt 124 = some b_X11_kindAt_124 := id rfl
theorem s_X11_kindAt_140 : s_X11_kindAt 140 = some b_X11_kindAt_140 := id rfl
theorem s_X11_kindAt_157 : s_X11_kindAt 157 = some b_X11_kindAt_157 := id rfl
theorem s_X11_kindAt_161 : s_X11_kindAt 161 = some b_X11_kindAt_161 := id rfl
theorem s_X11_kindAt_177 : s_X11_kindAt 177 = some b_X11_kindAt_177 := id rfl
theorem s_X11_kindAt_181 : s_X11_kindAt 181 = some b_X11_kindAt_181 := id rfl
theorem s_X11_kindAt_182 : s_X11_kindAt 182 = some b_X11_kindAt_182 := id rfl
theorem s_X11_kindAt_183 : s_X11_kindAt 183 = some b_X11_kindAt_183 := id rfl
theorem s_X11_kindAt_200 : s_X11_kindAt 200 = some b_X11_kindAt_200 := id rfl
theorem s_X11_kindAt_215 : s_X11_kindAt 215 = some b_X11_kindAt_215 := id rfl
theorem s_X11_kindAt_229 : s_X11_kindAt 229 = some b_X11_kindAt_229 := id rfl
theorem s_X11_kindAt_246 : s_X11_kindAt 246 = some b_X11_kindAt_246 := id rfl
theorem s_X11_kindAt_251 : s_X11_kindAt 251 = some b_X11_kindAt_251 := id rfl
theorem s_X11_kindAt_266 : s_X11_kindAt 266 = some b_X11_kindAt_266 := id rfl
theorem s_X11_kindAt_271 : s_X11_kindAt 271 = some b_X11_kindAt_271 := id rfl
theorem s_X11_kindAt_273 : s_X11_kindAt 273 = some b_X11_kindAt_273 := id rfl
theorem s_X11_kindAt_274 : s_X11_kindAt 274 = some b_X11_kindAt_274 := id rfl
theorem s_X11_kindAt_290 : s_X11_kindAt 290 = some b_X11_kindAt_290 := id rfl
theorem s_X11_kindAt_306 : s_X11_kindAt 306 = some b_X11_kindAt_306 := id rfl
theorem s_X11_kindAt_322 : s_X11_kindAt 322 = some b_X11_kindAt_322 := id rfl
theorem s_X11_kindAt_327 : s_X11_kindAt 327 = some b_X11_kindAt_327 := id rfl
theorem s_X11_kindAt_329 : s_X11_kindAt 329 = some b_X11_kindAt_329 := id rfl
theorem s_X11_kindAt_330 : s_X11_kindAt 330 = some b_X11_kindAt_330 := id rfl
theorem s_X11_kindAt_346 : s_X11_kindAt 346 = some b_X11_kindAt_346 := id rfl
theorem s_X11_kindAt_351 : s_X11_kindAt 351 = some b_X11_kindAt_351 := id rfl
theorem s_X11_kindAt_367 : s_X11_kindAt 367 = some b_X11_kindAt_367 := id rfl
theorem s_X11_kindAt_372 : s_X11_kindAt 372 = some b_X11_kindAt_372 := id rfl
theorem s_X11_kindAt_373 : s_X11_kindAt 373 = some b_X11_kindAt_373 := id rfl
def u_X11_kindAt : QU := ([], [], [], [], [265], [], [])
theorem o_X11_kindAt : q_skok cX11_kindAt 1 u_X11_kindAt L_X11_kindAt = true := by decide +kernel
theorem k_X11_kindAt : q_chk RX11 fl_X11 ld_X11 u_X11_kindAt = true := by decide +kernel
def b_X11_how_0 : List QE := [(.aload_n 0, 1, []), (.bipush 115, 3, []), (.bipush 117, 5, []), (.bipush 109, 7, []), (.iconst 0, 8, []), (.iconst 0, 9, []), (.invokevirtual 265, 12, []), (.ifCond .eq 8, 15, [(0, 20)])]
def b_X11_how_15 : List QE := [(.bipush 13, 17, []), (.goto 67, 20, [(0, 84)])]
def b_X11_how_20 : List QE := [(.aload_n 0, 21, []), (.bipush 109, 23, []), (.bipush 111, 25, []), (.bipush 115, 27, []), (.bipush 116, 29, []), (.iconst 0, 30, []), (.invokevirtual 265, 33, []), (.ifCond .eq 7, 36, [(0, 40)])]
def b_X11_how_36 : List QE := [(.iconst 5, 37, []), (.goto 47, 40, [(0, 84)])]
def b_X11_how_40 : List QE := [(.aload_n 0, 41, []), (.bipush 108, 43, []), (.bipush 101, 45, []), (.bipush 97, 47, []), (.bipush 115, 49, []), (.bipush 116, 51, []), (.invokevirtual 265, 54, []), (.ifCond .eq 7, 57, [(0, 61)])]
def b_X11_how_57 : List QE := [(.iconst 4, 58, []), (.goto 26, 61, [(0, 84)])]
def b_X11_how_61 : List QE := [(.aload_n 0, 62, []), (.bipush 99, 64, []), (.bipush 111, 66, []), (.bipush 117, 68, []), (.bipush 110, 70, []), (.bipush 116, 72, []), (.invokevirtual 265, 75, []), (.ifCond .eq 8, 78, [(0, 83)])]
def b_X11_how_78 : List QE := [(.bipush 14, 80, []), (.goto 4, 83, [(0, 84)])]
def b_X11_how_83 : List QE := [(.iconst (-1), 84, [])]
def b_X11_how_84 : List QE := [(.istore_n 1, 85, []), (.aload_n 0, 86, []), (.iload_n 1, 87, []), (.iconst (-1), 88, []), (.if_icmp .eq 7, 91, [(0, 95)])]
def b_X11_how_91 : List QE := [(.iconst 1, 92, []), (.goto 4, 95, [(0, 96)])]
def b_X11_how_95 : List QE := [(.iconst 0, 96, [])]
def b_X11_how_96 : List QE := [(.invokevirtual 257, 99, []), (.iload_n 1, 100, []), (.ireturn, 101, [])]
def L_X11_how : List (Nat × Option (List QE)) := [(0, some b_X11_how_0), (15, some b_X11_how_15), (20, some b_X11_how_20), (36, some b_X11_how_36), (40, some b_X11_how_40), (57, some b_X11_how_57), (61, some b_X11_how_61), (78, some b_X11_how_78), (83, some b_X11_how_83), (84, some b_X11_how_84), (91, some b_X11_how_91), (95, some b_X11_how_95), (96, some b_X11_how_96)]
def s_X11_how : Nat → Option (List QE) := q_look L_X11_how
theorem s_X11_how_0 : s_X11_how 0 = some b_X11_how_0 := id rfl
theorem s_X11_how_15 : s_X11_how 15 = some b_X11_how_15 := id rfl
theorem s_X11_how_20 : s_X11_how 20 = some b_X11_how_20 := id rfl
theorem s_X11_how_36 : s_X11_how 36 = some b_X11_how_36 := id rfl
theorem s_X11_how_40 : s_X11_how 40 = some b_X11_how_40 := id rfl
theorem s_X11_how_57 : s_X11_how 57 = some b_X11_how_57 := id rfl
theorem s_X11_how_61 : s_X11_how 61 = some b_X11_how_61 := id rfl
theorem s_X11_how_78 : s_X11_how 78 = some b_X11_how_78 := id rfl
theorem s_X11_how_83 : s_X11_how 83 = some b_X11_how_83 := id rfl
theorem s_X11_how_84 : s_X11_how 84 = some b_X11_how_84 := id rfl
theorem s_X11_how_91 : s_X11_how 91 = some b_X11_how_91 := id rfl
theorem s_X11_how_95 : s_X11_how 95 = some b_X11_how_95 := id rfl
theorem s_X11_how_96 : s_X11_how 96 = some b_X11_how_96 := id rfl
def u_X11_how : QU := ([], [], [], [], [265, 257], [], [])
theorem o_X11_how : q_skok cX11_how 2 u_X11_how L_X11_how = true := by decide +kernel
theorem k_X11_how : q_chk RX11 fl_X11 ld_X11 u_X11_how = true := by decide +kernel
def b_X11_readBoard_0 : List QE := [(.aload_n 0, 1, []), (.invokevirtual 261, 4, []), (.ifCond .eq 18, 7, [(0, 22)])]
def b_X11_readBoard_7 : List QE := [(.aload_n 0, 8, []), (.getfield 76, 11, []), (.aload_n 0, 12, []), (.getfield 227, 15, []), (.iaload, 16, []), (.bipush 97, 18, []), (.isub, 19, []), (.goto 4, 22, [(0, 23)])]
def b_X11_readBoard_22 : List QE := [(.iconst (-1), 23, [])]
def b_X11_readBoard_23 : List QE := [(.istore_n 1, 24, []), (.aload_n 0, 25, []), (.iload_n 1, 26, []), (.iconst (-1), 27, []), (.if_icmp .eq 26, 30, [(0, 53)])]
def b_X11_readBoard_30 : List QE := [(.aload_n 0, 31, []), (.getfield 73, 34, []), (.iload_n 1, 35, []), (.iaload, 36, []), (.iconst (-1), 37, []), (.if_icmp .ne 16, 40, [(0, 53)])]
def b_X11_readBoard_40 : List QE := [(.aload_n 0, 41, []), (.getfield 269, 44, []), (.bipush 10, 46, []), (.if_icmp .ge 7, 49, [(0, 53)])]
def b_X11_readBoard_49 : List QE := [(.iconst 1, 50, []), (.goto 4, 53, [(0, 54)])]
def b_X11_readBoard_53 : List QE := [(.iconst 0, 54, [])]
def b_X11_readBoard_54 : List QE := [(.invokevirtual 257, 57, []), (.aload_n 0, 58, []), (.aload_n 0, 59, []), (.bipush 61, 61, []), (.invokevirtual 272, 64, []), (.invokevirtual 257, 67, []), (.aload_n 0, 68, []), (.invokevirtual 275, 71, []), (.istore_n 2, 72, []), (.aload_n 0, 73, []), (.iload_n 2, 74, []), (.iconst (-1), 75, []), (.if_icmp .eq 7, 78, [(0, 82)])]
def b_X11_readBoard_78 : List QE := [(.iconst 1, 79, []), (.goto 4, 82, [(0, 83)])]
def b_X11_readBoard_82 : List QE := [(.iconst 0, 83, [])]
def b_X11_readBoard_83 : List QE := [(.invokevirtual 257, 86, []), (.aload_n 0, 87, []), (.getfield 250, 90, []), (.ifCond .eq 4, 93, [(0, 94)])]
def b_X11_readBoard_93 : List QE := [(.return_, 94, [])]
def b_X11_readBoard_94 : List QE := [(.aload_n 0, 95, []), (.getfield 269, 98, []), (.istore_n 3, 99, []), (.aload_n 0, 100, []), (.getfield 58, 103, []), (.iload_n 3, 104, []), (.iload_n 2, 105, []), (.iastore, 106, []), (.aload_n 0, 107, []), (.getfield 70, 110, []), (.iload_n 3, 111, []), (.iconst 0, 112, []), (.iastore, 113, []), (.aload_n 0, 114, []), (.getfield 64, 117, []), (.iload_n 3, 118, []), (.iconst 0, 119, []), (.iastore, 120, []), (.aload_n 0, 121, []), (.getfield 61, 124, []), (.iload_n 3, 125, []), (.iconst (-1), 126, []), (.iastore, 127, []), (.iload_n 2, 128, []), (.ifCond .ne 20, 131, [(0, 148)])]
def b_X11_readBoard_131 : List QE := [(.aload_n 0, 132, []), (.getfield 64, 135, []), (.iload_n 3, 136, []), (.aload_n 0, 137, []), (.lconst 0, 138, []), (.ldc2_w 107, 141, []), (.invokevirtual 278, 144, []), (.iastore, 145, []), (.goto 165, 148, [(0, 310)])]
def b_X11_readBoard_148 : List QE := [(.iload_n 2, 149, []), (.bipush 10, 151, []), (.if_icmp .ne 36, 154, [(0, 187)])]
def b_X11_readBoard_154 : List QE := [(.aload_n 0, 155, []), (.getfield 64, 158, []), (.iload_n 3, 159, []), (.aload_n 0, 160, []), (.lconst 1, 161, []), (.ldc2_w 107, 164, []), (.invokevirtual 278, 167, []), (.iastore, 168, []), (.aload_n 0, 169, []), (.getfield 61, 172, []), (.iload_n 3, 173, []), (.aload_n 0, 174, []), (.invokevirtual 282, 177, []), (.iastore, 178, []), (.aload_n 0, 179, []), (.iload_n 3, 180, []), (.iconst 0, 181, []), (.invokevirtual 285, 184, []), (.goto 126, 187, [(0, 310)])]
def b_X11_readBoard_187 : List QE := [(.aload_n 0, 188, []), (.getfield 61, 191, []), (.iload_n 3, 192, []), (.iload_n 2, 193, []), (.bipush 11, 195, []), (.if_icmp .ne 10, 198, [(0, 205)])]
def b_X11_readBoard_198 : List QE := [(.aload_n 0, 199, []), (.invokevirtual 282, 202, []), (.goto 4, 205, [(0, 206)])]
def b_X11_readBoard_205 : List QE := [(.iconst (-1), 206, [])]
def b_X11_readBoard_206 : List QE := [(.iastore, 207, []), (.aload_n 0, 208, []), (.iload_n 3, 209, []), (.iconst 0, 210, []), (.invokevirtual 285, 213, []), (.iload_n 2, 214, []), (.bipush 9, 216, []), (.if_icmp .eq 15, 219, [(0, 231)])]
def b_X11_readBoard_219 : List QE := [(.iload_n 2, 220, []), (.bipush 12, 222, []), (.if_icmp .eq 9, 225, [(0, 231)])]
def b_X11_readBoard_225 : List QE := [(.aload_n 0, 226, []), (.iload_n 3, 227, []), (.iconst 1, 228, []), (.invokevirtual 285, 231, [])]
def b_X11_readBoard_231 : List QE := [(.iload_n 2, 232, []), (.bipush 8, 234, []), (.if_icmp .ne 9, 237, [(0, 243)])]
def b_X11_readBoard_237 : List QE := [(.aload_n 0, 238, []), (.iload_n 3, 239, []), (.iconst 2, 240, []), (.invokevirtual 285, 243, [])]
def b_X11_readBoard_243 : List QE := [(.iload_n 2, 244, []), (.bipush 9, 246, []), (.if_icmp .ne 64, 249, [(0, 310)])]
def b_X11_readBoard_249 : List QE := [(.aload_n 0, 250, []), (.getfield 250, 253, []), (.ifCond .ne 16, 256, [(0, 269)])]
def b_X11_readBoard_256 : List QE := [(.aload_n 0, 257, []), (.bipush 45, 259, []), (.invokevirtual 272, 262, []), (.ifCond .eq 7, 265, [(0, 269)])]
def b_X11_readBoard_265 : List QE := [(.iconst 1, 266, []), (.goto 4, 269, [(0, 270)])]
def b_X11_readBoard_269 : List QE := [(.iconst 0, 270, [])]
def b_X11_readBoard_270 : List QE := [(.istore 4, 272, []), (.iload 4, 274, []), (.ifCond .eq 7, 277, [(0, 281)])]
def b_X11_readBoard_277 : List QE := [(.aload_n 0, 278, []), (.invokevirtual 254, 281, [])]
def b_X11_readBoard_281 : List QE := [(.aload_n 0, 282, []), (.lconst 0, 283, []), (.ldc2_w 111, 286, []), (.invokevirtual 278, 289, []), (.istore 5, 291, []), (.aload_n 0, 292, []), (.getfield 64, 295, []), (.iload_n 3, 296, []), (.iload 4, 298, []), (.ifCond .eq 9, 301, [(0, 307)])]
def b_X11_readBoard_301 : List QE := [(.iload 5, 303, []), (.ineg, 304, []), (.goto 5, 307, [(0, 309)])]
def b_X11_readBoard_307 : List QE := [(.iload 5, 309, [])]
def b_X11_readBoard_309 : List QE := [(.iastore, 310, [])]
def b_X11_readBoard_310 : List QE := [(.aload_n 0, 311, []), (.getfield 250, 314, []), (.ifCond .ne 20, 317, [(0, 334)])]
def b_X11_readBoard_317 : List QE := [(.aload_n 0, 318, []), (.getfield 73, 321, []), (.iload_n 1, 322, []), (.iload_n 3, 323, []), (.iastore, 324, []), (.aload_n 0, 325, []), (.dup, 326, []), (.getfield 269, 329, []), (.iconst 1, 330, []), (.iadd, 331, []), (.putfield 269, 334, [])]
def b_X11_readBoard_334 : List QE := [(.return_, 335, [])]
def L_X11_readBoard : List (Nat × Option (List QE)) := [(0, some b_X11_readBoard_0), (7, some b_X11_readBoard_7), (22, some b_X11_readBoard_22), (23, some b_X11_readBoard_23), (30, some b_X11_readBoard_30), (40, some b_X11_readBoard_40), (49, some b_X11_readBoard_49), (53, some b_X11_readBoard_53), (54, some b_X11_readBoard_54), (78, some b_X11_readBoard_78), (82, some b_X11_readBoard_82), (83, some b_X11_readBoard_83), (93, some b_X11_readBoard_93), (94, some b_X11_readBoard_94), (131, some b_X11_readBoard_131), (148, some b_X11_readBoard_148), (154, some b_X11_readBoard_154), (187, some b_X11_readBoard_187), (198, some b_X11_readBoard_198), (205, some b_X11_readBoard_205), (206, some b_X11_readBoard_206), (219, some b_X11_readBoard_219), (225, some b_X11_readBoard_225), (231, some b_X11_readBoard_231), (237, some b_X11_readBoard_237), (243, some b_X11_readBoard_243), (249, some b_X11_readBoard_249), (256, some b_X11_readBoard_256), (265, some b_X11_readBoard_265), (269, some b_X11_readBoard_269), (270, some b_X11_readBoard_270), (277, some b_X11_readBoard_277), (281, some b_X11_readBoard_281), (301, some b_X11_readBoard_301), (307, some b_X11_readBoard_307), (309, some b_X11_readBoard_309), (310, some b_X11_readBoard_310), (317, some b_X11_readBoard_317), (334, some b_X11_readBoard_334)]
def s_X11_readBoard : Nat → Option (List QE) := q_look L_X11_readBoard
theorem s_X11_readBoard_0 : s_X11_readBoard 0 = some b_X11_readBoard_0 := id rfl
theorem s_X11_readBoard_7 : s_X11_readBoard 7 = some b_X11_readBoard_7 := id rfl
theorem s_X11_readBoard_22 : s_X11_readBoard 22 = some b_X11_readBoard_22 := id rfl
theorem s_X11_readBoard_23 : s_X11_readBoard 23 = some b_X11_readBoard_23 := id rfl
theorem s_X11_readBoard_30 : s_X11_readBoard 30 = some b_X11_readBoard_30 := id rfl
theorem s_X11_readBoard_40 : s_X11_readBoard 40 = some b_X11_readBoard_40 := id rfl
theorem s_X11_readBoard_49 : s_X11_readBoard 49 = some b_X11_readBoard_49 := id rfl
theorem s_X11_readBoard_53 : s_X11_readBoard 53 = some b_X11_readBoard_53 := id rfl
theorem s_X11_readBoard_54 : s_X11_readBoard 54 = some b_X11_readBoard_54 := id rfl
theorem s_X11_readBoard_78 : s_X11_readBoard 78 = some b_X11_readBoard_78 := id rfl
theorem s_X11_readBoard_82 : s_X11_readBoard 82 = some b_X11_readBoard_82 := id rfl
theorem s_X11_readBoard_83 : s_X11_readBoard 83 = some b_X11_readBoard_83 := id rfl
theorem s_X11_readBoard_93 : s_X11_readBoard 93 = some b_X11_readBoard_93 := id rfl
theorem s_X11_readBoard_94 : s_X11_readBoard 94 = some b_X11_readBoard_94 := id rfl
theorem s_X11_readBoard_131 : s_X11_readBoard 131 = some b_X11_readBoard_131 := id rfl
theorem s_X11_readBoard_148 : s_X11_readBoard 148 = some b_X11_readBoard_148 := id rfl
theorem s_X11_readBoard_154 : s_X11_readBoard 154 = some b_X11_readBoard_154 := id rfl
theorem s_X11_readBoard_187 : s_X11_readBoard 187 = some b_X11_readBoard_187 := id rfl
theorem s_X11_readBoard_198 : s_X11_readBoard 198 = some b_X11_readBoard_198 := id rfl
theorem s_X11_readBoard_205 : s_X11_readBoard 205 = some b_X11_readBoard_205 := id rfl
theorem s_X11_readBoard_206 : s_X11_readBoard 206 = some b_X11_readBoard_206 := id rfl
theorem s_X11_readBoard_219 : s_X11_readBoard 219 = some b_X11_readBoard_219 := id rfl
theorem s_X11_readBoard_225 : s_X11_readBoard 225 = some b_X11_readBoard_225 := id rfl
theorem s_X11_readBoard_231 : s_X11_readBoard 231 = some b_X11_readBoard_231 := id rfl
theorem s_X11_readBoard_237 : s_X11_readBoard 237 = some b_X11_readBoard_237 := id rfl
theorem s_X11_readBoard_243 : s_X11_readBoard 243 = some b_X11_readBoard_243 := id rfl
theorem s_X11_readBoard_249 : s_X11_readBoard 249 = some b_X11_readBoard_249 := id rfl
theorem s_X11_readBoard_256 : s_X11_readBoard 256 = some b_X11_readBoard_256 := id rfl
theorem s_X11_readBoard_265 : s_X11_readBoard 265 = some b_X11_readBoard_265 := id rfl
theorem s_X11_readBoard_269 : s_X11_readBoard 269 = some b_X11_readBoard_269 := id rfl
theorem s_X11_readBoard_270 : s_X11_readBoard 270 = some b_X11_readBoard_270 := id rfl
theorem s_X11_readBoard_277 : s_X11_readBoard 277 = some b_X11_readBoard_277 := id rfl
theorem s_X11_readBoard_281 : s_X11_readBoard 281 = some b_X11_readBoard_281 := id rfl
theorem s_X11_readBoard_301 : s_X11_readBoard 301 = some b_X11_readBoard_301 := id rfl
theorem s_X11_readBoard_307 : s_X11_readBoard 307 = some b_X11_readBoard_307 := id rfl
theorem s_X11_readBoard_309 : s_X11_readBoard 309 = some b_X11_readBoard_309 := id rfl
theorem s_X11_readBoard_310 : s_X11_readBoard 310 = some b_X11_readBoard_310 := id rfl
theorem s_X11_readBoard_317 : s_X11_readBoard 317 = some b_X11_readBoard_317 := id rfl
theorem s_X11_readBoard_334 : s_X11_readBoard 334 = some b_X11_readBoard_334 := id rfl
def u_X11_readBoard : QU := ([76, 227, 73, 269, 250, 58, 70, 64, 61], [269], [107, 111], [], [261, 257, 272, 275, 278, 282, 285, 254], [], [])
theorem o_X11_readBoard : q_skok cX11_readBoard 6 u_X11_readBoard L_X11_readBoard = true := by decide +kernel
theorem k_X11_readBoard : q_chk RX11 fl_X11 ld_X11 u_X11_readBoard = true := by decide +kernel
def b_X11_boards_0 : List QE := [(.aload_n 0, 1, []), (.iconst 0, 2, []), (.putfield 85, 5, []), (.aload_n 0, 6, []), (.iconst 0, 7, []), (.putfield 224, 10, []), (.aload_n 0, 11, []), (.iconst 0, 12, []), (.putfield 250, 15, []), (.aload_n 0, 16, []), (.iconst (-1), 17, []), (.putfield 79, 20, []), (.aload_n 0, 21, []), (.iconst 0, 22, []), (.putfield 269, 25, []), (.iconst 0, 26, []), (.istore_n 1, 27, [])]
def b_X11_boards_27 : List QE := [(.iload_n 1, 28, []), (.bipush 26, 30, []), (.if_icmp .ge 16, 33, [(0, 46)])]
def b_X11_boards_33 : List QE := [(.aload_n 0, 34, []), (.getfield 73, 37, []), (.iload_n 1, 38, []), (.iconst (-1), 39, []), (.iastore, 40, []), (.iinc 1 1, 43, []), (.goto (-16), 46, [(0, 27)])]
def b_X11_boards_46 : List QE := [(.aload_n 0, 47, []), (.invokevirtual 254, 50, []), (.aload_n 0, 51, []), (.invokevirtual 288, 54, [])]
def b_X11_boards_54 : List QE := [(.aload_n 0, 55, []), (.getfield 250, 58, []), (.ifCond .ne 23, 61, [(0, 81)])]
def b_X11_boards_61 : List QE := [(.aload_n 0, 62, []), (.bipush 59, 64, []), (.invokevirtual 272, 67, []), (.ifCond .eq 14, 70, [(0, 81)])]
def b_X11_boards_70 : List QE := [(.aload_n 0, 71, []), (.invokevirtual 254, 74, []), (.aload_n 0, 75, []), (.invokevirtual 288, 78, []), (.goto (-24), 81, [(0, 54)])]
def b_X11_boards_81 : List QE := [(.aload_n 0, 82, []), (.getfield 250, 85, []), (.ifCond .ne 15, 88, [(0, 100)])]
def b_X11_boards_88 : List QE := [(.aload_n 0, 89, []), (.getfield 239, 92, []), (.ifCond .eq 8, 95, [(0, 100)])]
def b_X11_boards_95 : List QE := [(.aload_n 0, 96, []), (.iconst 0, 97, []), (.invokevirtual 257, 100, [])]
def b_X11_boards_100 : List QE := [(.aload_n 0, 101, []), (.iconst 0, 102, []), (.putfield 218, 105, []), (.aload_n 0, 106, []), (.getfield 250, 109, []), (.ifCond .eq 10, 112, [(0, 119)])]
def b_X11_boards_112 : List QE := [(.aload_n 0, 113, []), (.bipush (-6), 115, []), (.invokevirtual 103, 118, []), (.ireturn, 119, [])]
def b_X11_boards_119 : List QE := [(.aload_n 0, 120, []), (.aload_n 0, 121, []), (.getfield 269, 124, []), (.putfield 125, 127, []), (.iconst 0, 128, []), (.istore_n 1, 129, [])]
def b_X11_boards_129 : List QE := [(.iload_n 1, 130, []), (.aload_n 0, 131, []), (.getfield 125, 134, []), (.if_icmp .ge 95, 137, [(0, 229)])]
def b_X11_boards_137 : List QE := [(.aload_n 0, 138, []), (.getfield 27, 141, []), (.iload_n 1, 142, []), (.aload_n 0, 143, []), (.getfield 58, 146, []), (.iload_n 1, 147, []), (.iaload, 148, []), (.iastore, 149, []), (.aload_n 0, 150, []), (.getfield 30, 153, []), (.iload_n 1, 154, []), (.aload_n 0, 155, []), (.getfield 61, 158, []), (.iload_n 1, 159, []), (.iaload, 160, []), (.iastore, 161, []), (.aload_n 0, 162, []), (.getfield 33, 165, []), (.iload_n 1, 166, []), (.aload_n 0, 167, []), (.getfield 64, 170, []), (.iload_n 1, 171, []), (.iaload, 172, []), (.iastore, 173, []), (.aload_n 0, 174, []), (.getfield 39, 177, []), (.iload_n 1, 178, []), (.aload_n 0, 179, []), (.getfield 70, 182, []), (.iload_n 1, 183, []), (.iaload, 184, []), (.iastore, 185, []), (.iconst 0, 186, []), (.istore_n 2, 187, [])]
def b_X11_boards_187 : List QE := [(.iload_n 2, 188, []), (.aload_n 0, 189, []), (.getfield 70, 192, []), (.iload_n 1, 193, []), (.iaload, 194, []), (.if_icmp .ge 29, 197, [(0, 223)])]
def b_X11_boards_197 : List QE := [(.aload_n 0, 198, []), (.getfield 36, 201, []), (.iconst 3, 202, []), (.iload_n 1, 203, []), (.imul, 204, []), (.iload_n 2, 205, []), (.iadd, 206, []), (.aload_n 0, 207, []), (.getfield 67, 210, []), (.iconst 3, 211, []), (.iload_n 1, 212, []), (.imul, 213, []), (.iload_n 2, 214, []), (.iadd, 215, []), (.iaload, 216, []), (.iastore, 217, []), (.iinc 2 1, 220, []), (.goto (-33), 223, [(0, 187)])]
def b_X11_boards_223 : List QE := [(.iinc 1 1, 226, []), (.goto (-97), 229, [(0, 129)])]
def b_X11_boards_229 : List QE := [(.aload_n 0, 230, []), (.invokevirtual 92, 233, []), (.aload_n 0, 234, []), (.aload_n 0, 235, []), (.getfield 125, 238, []), (.invokevirtual 103, 241, []), (.ireturn, 242, [])]
def L_X11_boards : List (Nat × Option (List QE)) := [(0, some b_X11_boards_0), (27, none), (33, some b_X11_boards_33), (46, some b_X11_boards_46), (54, none), (61, some b_X11_boards_61), (70, some b_X11_boards_70), (81, some b_X11_boards_81), (88, some b_X11_boards_88), (95, some b_X11_boards_95), (100, some b_X11_boards_100), (112, some b_X11_boards_112), (119, some b_X11_boards_119), (129, none), (137, some b_X11_boards_137), (187, none), (197, some b_X11_boards_197), (223, some b_X11_boards_223), (229, some b_X11_boards_229)]
def s_X11_boards : Nat → Option (List QE) := q_look L_X11_boards
theorem s_X11_boards_0 : s_X11_boards 0 = some b_X11_boards_0 := id rfl
theorem s_X11_boards_27 : s_X11_boards 27 = none := id rfl
theorem s_X11_boards_33 : s_X11_boards 33 = some b_X11_boards_33 := id rfl
theorem s_X11_boards_46 : s_X11_boards 46 = some b_X11_boards_46 := id rfl
theorem s_X11_boards_54 : s_X11_boards 54 = none := id rfl
theorem s_X11_boards_61 : s_X11_boards 61 = some b_X11_boards_61 := id rfl
theorem s_X11_boards_70 : s_X11_boards 70 = some b_X11_boards_70 := id rfl
theorem s_X11_boards_81 : s_X11_boards 81 = some b_X11_boards_81 := id rfl
theorem s_X11_boards_88 : s_X11_boards 88 = some b_X11_boards_88 := id rfl
theorem s_X11_boards_95 : s_X11_boards 95 = some b_X11_boards_95 := id rfl
theorem s_X11_boards_100 : s_X11_boards 100 = some b_X11_boards_100 := id rfl
theorem s_X11_boards_112 : s_X11_boards 112 = some b_X11_boards_112 := id rfl
theorem s_X11_boards_119 : s_X11_boards 119 = some b_X11_boards_119 := id rfl
theorem s_X11_boards_129 : s_X11_boards 129 = none := id rfl
theorem s_X11_boards_137 : s_X11_boards 137 = some b_X11_boards_137 := id rfl
theorem s_X11_boards_187 : s_X11_boards 187 = none := id rfl
theorem s_X11_boards_197 : s_X11_boards 197 = some b_X11_boards_197 := id rfl
theorem s_X11_boards_223 : s_X11_boards 223 = some b_X11_boards_223 := id rfl
theorem s_X11_boards_229 : s_X11_boards 229 = some b_X11_boards_229 := id rfl
def u_X11_boards : QU := ([85, 224, 250, 79, 269, 73, 239, 218, 125, 27, 58, 30, 61, 33, 64, 39, 70, 36, 67], [85, 224, 250, 79, 269, 218, 125], [], [], [254, 288, 272, 257, 103, 92], [], [])
theorem o_X11_boards : q_skok cX11_boards 3 u_X11_boards L_X11_boards = true := by decide +kernel
theorem o_X11_boards_129 : q_ok cX11_boards 3 u_X11_boards 129 b_X11_boards_129 = true := by decide +kernel
theorem o_X11_boards_27 : q_ok cX11_boards 3 u_X11_boards 27 b_X11_boards_27 = true := by decide +kernel
theorem o_X11_boards_187 : q_ok cX11_boards 3 u_X11_boards 187 b_X11_boards_187 = true := by decide +kernel
theorem o_X11_boards_54 : q_ok cX11_boards 3 u_X11_boards 54 b_X11_boards_54 = true := by decide +kernel
theorem k_X11_boards : q_chk RX11 fl_X11 ld_X11 u_X11_boards = true := by decide +kernel
def b_X11_fault_0 : List QE := [(.aload_n 0, 1, []), (.iconst 0, 2, []), (.putfield 85, 5, []), (.aload_n 0, 6, []), (.getfield 79, 9, []), (.ireturn, 10, [])]
def L_X11_fault : List (Nat × Option (List QE)) := [(0, some b_X11_fault_0)]
def s_X11_fault : Nat → Option (List QE) := q_look L_X11_fault
theorem s_X11_fault_0 : s_X11_fault 0 = some b_X11_fault_0 := id rfl
def u_X11_fault : QU := ([85, 79], [85], [], [], [], [], [])
theorem o_X11_fault : q_skok cX11_fault 1 u_X11_fault L_X11_fault = true := by decide +kernel
theorem k_X11_fault : q_chk RX11 fl_X11 ld_X11 u_X11_fault = true := by decide +kernel
def b_X11_image_0 : List QE := [(.aload_n 0, 1, []), (.iconst 0, 2, []), (.putfield 85, 5, []), (.iload_n 1, 6, []), (.i2l, 7, []), (.lconst 0, 8, []), (.ldc2_w 99, 11, []), (.invokestatic 95, 14, []), (.ifCond .ne 9, 17, [(0, 23)])]
def b_X11_image_17 : List QE := [(.aload_n 0, 18, []), (.iconst (-1), 19, []), (.invokevirtual 103, 22, []), (.ireturn, 23, [])]
def b_X11_image_23 : List QE := [(.iconst 0, 24, []), (.istore_n 2, 25, [])]
def b_X11_image_25 : List QE := [(.iload_n 2, 26, []), (.sipush 576, 29, []), (.if_icmp .ge 27, 32, [(0, 56)])]
def b_X11_image_32 : List QE := [(.aload_n 0, 33, []), (.getfield 20, 36, []), (.sipush 576, 39, []), (.iload_n 1, 40, []), (.imul, 41, []), (.iload_n 2, 42, []), (.iadd, 43, []), (.aload_n 0, 44, []), (.getfield 16, 47, []), (.iload_n 2, 48, []), (.iaload, 49, []), (.iastore, 50, []), (.iinc 2 1, 53, []), (.goto (-28), 56, [(0, 25)])]
def b_X11_image_56 : List QE := [(.aload_n 0, 57, []), (.getfield 23, 60, []), (.iload_n 1, 61, []), (.iconst 1, 62, []), (.bastore, 63, []), (.aload_n 0, 64, []), (.iconst 0, 65, []), (.invokevirtual 103, 68, []), (.ireturn, 69, [])]
def L_X11_image : List (Nat × Option (List QE)) := [(0, some b_X11_image_0), (17, some b_X11_image_17), (23, some b_X11_image_23), (25, none), (32, some b_X11_image_32), (56, some b_X11_image_56)]
def s_X11_image : Nat → Option (List QE) := q_look L_X11_image
theorem s_X11_image_0 : s_X11_image 0 = some b_X11_image_0 := id rfl
theorem s_X11_image_17 : s_X11_image 17 = some b_X11_image_17 := id rfl
theorem s_X11_image_23 : s_X11_image 23 = some b_X11_image_23 := id rfl
theorem s_X11_image_25 : s_X11_image 25 = none := id rfl
theorem s_X11_image_32 : s_X11_image 32 = some b_X11_image_32 := id rfl
theorem s_X11_image_56 : s_X11_image 56 = some b_X11_image_56 := id rfl
def u_X11_image : QU := ([85, 20, 16, 23], [85], [99], [], [103], [95], [])
theorem o_X11_image : q_skok cX11_image 3 u_X11_image L_X11_image = true := by decide +kernel
theorem o_X11_image_25 : q_ok cX11_image 3 u_X11_image 25 b_X11_image_25 = true := by decide +kernel
theorem k_X11_image : q_chk RX11 fl_X11 ld_X11 u_X11_image = true := by decide +kernel
def b_X11_back_0 : List QE := [(.aload_n 0, 1, []), (.iconst 0, 2, []), (.putfield 85, 5, []), (.iload_n 1, 6, []), (.i2l, 7, []), (.lconst 0, 8, []), (.ldc2_w 99, 11, []), (.invokestatic 95, 14, []), (.ifCond .ne 9, 17, [(0, 23)])]
def b_X11_back_17 : List QE := [(.aload_n 0, 18, []), (.iconst (-1), 19, []), (.invokevirtual 103, 22, []), (.ireturn, 23, [])]
def b_X11_back_23 : List QE := [(.aload_n 0, 24, []), (.getfield 23, 27, []), (.iload_n 1, 28, []), (.baload, 29, []), (.ifCond .ne 10, 32, [(0, 39)])]
def b_X11_back_32 : List QE := [(.aload_n 0, 33, []), (.bipush (-6), 35, []), (.invokevirtual 103, 38, []), (.ireturn, 39, [])]
def b_X11_back_39 : List QE := [(.iconst 0, 40, []), (.istore_n 2, 41, []), (.iconst 0, 42, []), (.istore_n 3, 43, [])]
def b_X11_back_43 : List QE := [(.iload_n 3, 44, []), (.sipush 576, 47, []), (.if_icmp .ge 65, 50, [(0, 112)])]
def b_X11_back_50 : List QE := [(.aload_n 0, 51, []), (.getfield 16, 54, []), (.iload_n 3, 55, []), (.iaload, 56, []), (.aload_n 0, 57, []), (.getfield 20, 60, []), (.sipush 576, 63, []), (.iload_n 1, 64, []), (.imul, 65, []), (.iload_n 3, 66, []), (.iadd, 67, []), (.iaload, 68, []), (.if_icmp .eq 38, 71, [(0, 106)])]
def b_X11_back_71 : List QE := [(.aload_n 0, 72, []), (.iload_n 3, 73, []), (.sipush 144, 76, []), (.idiv, 77, []), (.iload_n 3, 78, []), (.bipush 12, 80, []), (.irem, 81, []), (.iload_n 3, 82, []), (.bipush 12, 84, []), (.idiv, 85, []), (.bipush 12, 87, []), (.irem, 88, []), (.aload_n 0, 89, []), (.getfield 20, 92, []), (.sipush 576, 95, []), (.iload_n 1, 96, []), (.imul, 97, []), (.iload_n 3, 98, []), (.iadd, 99, []), (.iaload, 100, []), (.invokevirtual 117, 103, []), (.iinc 2 1, 106, [])]
def b_X11_back_106 : List QE := [(.iinc 3 1, 109, []), (.goto (-66), 112, [(0, 43)])]
def b_X11_back_112 : List QE := [(.aload_n 0, 113, []), (.iload_n 2, 114, []), (.invokevirtual 103, 117, []), (.ireturn, 118, [])]
def L_X11_back : List (Nat × Option (List QE)) := [(0, some b_X11_back_0), (17, some b_X11_back_17), (23, some b_X11_back_23), (32, some b_X11_back_32), (39, some b_X11_back_39), (43, none), (50, some b_X11_back_50), (71, some b_X11_back_71), (106, some b_X11_back_106), (112, some b_X11_back_112)]
def s_X11_back : Nat → Option (List QE) := q_look L_X11_back
theorem s_X11_back_0 : s_X11_back 0 = some b_X11_back_0 := id rfl
theorem s_X11_back_17 : s_X11_back 17 = some b_X11_back_17 := id rfl
theorem s_X11_back_23 : s_X11_back 23 = some b_X11_back_23 := id rfl
theorem s_X11_back_32 : s_X11_back 32 = some b_X11_back_32 := id rfl
theorem s_X11_back_39 : s_X11_back 39 = some b_X11_back_39 := id rfl
theorem s_X11_back_43 : s_X11_back 43 = none := id rfl
theorem s_X11_back_50 : s_X11_back 50 = some b_X11_back_50 := id rfl
theorem s_X11_back_71 : s_X11_back 71 = some b_X11_back_71 := id rfl
theorem s_X11_back_106 : s_X11_back 106 = some b_X11_back_106 := id rfl
theorem s_X11_back_112 : s_X11_back 112 = some b_X11_back_112 := id rfl
def u_X11_back : QU := ([85, 23, 16, 20], [85], [99], [], [103, 117], [95], [])
theorem o_X11_back : q_skok cX11_back 4 u_X11_back L_X11_back = true := by decide +kernel
theorem o_X11_back_43 : q_ok cX11_back 4 u_X11_back 43 b_X11_back_43 = true := by decide +kernel
theorem k_X11_back : q_chk RX11 fl_X11 ld_X11 u_X11_back = true := by decide +kernel
def b_X11_count_0 : List QE := [(.aload_n 0, 1, []), (.iconst 0, 2, []), (.putfield 85, 5, []), (.iconst 0, 6, []), (.istore_n 2, 7, []), (.iload_n 1, 8, []), (.tableswitch 130 0 5 #[40, 45, 50, 55, 87, 92], 48, [(0, 48), (1, 53), (2, 58), (3, 63), (4, 95), (5, 100), (0, 138)])]
def b_X11_count_48 : List QE := [(.aload_n 0, 49, []), (.getfield 7, 52, []), (.ireturn, 53, [])]
def b_X11_count_53 : List QE := [(.aload_n 0, 54, []), (.getfield 13, 57, []), (.ireturn, 58, [])]
def b_X11_count_58 : List QE := [(.aload_n 0, 59, []), (.getfield 125, 62, []), (.ireturn, 63, [])]
def b_X11_count_63 : List QE := [(.iconst 0, 64, []), (.istore_n 3, 65, [])]
def b_X11_count_65 : List QE := [(.iload_n 3, 66, []), (.bipush 9, 68, []), (.if_icmp .ge 25, 71, [(0, 93)])]
def b_X11_count_71 : List QE := [(.iload_n 2, 72, []), (.aload_n 0, 73, []), (.iload_n 3, 74, []), (.invokevirtual 134, 77, []), (.ifCond .eq 7, 80, [(0, 84)])]
def b_X11_count_80 : List QE := [(.iconst 1, 81, []), (.goto 4, 84, [(0, 85)])]
def b_X11_count_84 : List QE := [(.iconst 0, 85, [])]
def b_X11_count_85 : List QE := [(.iadd, 86, []), (.istore_n 2, 87, []), (.iinc 3 1, 90, []), (.goto (-25), 93, [(0, 65)])]
def b_X11_count_93 : List QE := [(.iload_n 2, 94, []), (.ireturn, 95, [])]
def b_X11_count_95 : List QE := [(.aload_n 0, 96, []), (.getfield 218, 99, []), (.ireturn, 100, [])]
def b_X11_count_100 : List QE := [(.iconst 0, 101, []), (.istore_n 3, 102, [])]
def b_X11_count_102 : List QE := [(.iload_n 3, 103, []), (.bipush 9, 105, []), (.aload_n 0, 106, []), (.getfield 125, 109, []), (.imul, 110, []), (.if_icmp .ge 26, 113, [(0, 136)])]
def b_X11_count_113 : List QE := [(.iload_n 2, 114, []), (.aload_n 0, 115, []), (.getfield 42, 118, []), (.iload_n 3, 119, []), (.baload, 120, []), (.ifCond .eq 7, 123, [(0, 127)])]
def b_X11_count_123 : List QE := [(.iconst 1, 124, []), (.goto 4, 127, [(0, 128)])]
def b_X11_count_127 : List QE := [(.iconst 0, 128, [])]
def b_X11_count_128 : List QE := [(.iadd, 129, []), (.istore_n 2, 130, []), (.iinc 3 1, 133, []), (.goto (-31), 136, [(0, 102)])]
def b_X11_count_136 : List QE := [(.iload_n 2, 137, []), (.ireturn, 138, [])]
def b_X11_count_138 : List QE := [(.iconst (-1), 139, []), (.ireturn, 140, [])]
def L_X11_count : List (Nat × Option (List QE)) := [(0, some b_X11_count_0), (48, some b_X11_count_48), (53, some b_X11_count_53), (58, some b_X11_count_58), (63, some b_X11_count_63), (65, none), (71, some b_X11_count_71), (80, some b_X11_count_80), (84, some b_X11_count_84), (85, some b_X11_count_85), (93, some b_X11_count_93), (95, some b_X11_count_95), (100, some b_X11_count_100), (102, none), (113, some b_X11_count_113), (123, some b_X11_count_123), (127, some b_X11_count_127), (128, some b_X11_count_128), (136, some b_X11_count_136), (138, some b_X11_count_138)]
def s_X11_count : Nat → Option (List QE) := q_look L_X11_count
theorem s_X11_count_0 : s_X11_count 0 = some b_X11_count_0 := id rfl
theorem s_X11_count_48 : s_X11_count 48 = some b_X11_count_48 := id rfl
theorem s_X11_count_53 : s_X11_count 53 = some b_X11_count_53 := id rfl
theorem s_X11_count_58 : s_X11_count 58 = some b_X11_count_58 := id rfl
theorem s_X11_count_63 : s_X11_count 63 = some b_X11_count_63 := id rfl
theorem s_X11_count_65 : s_X11_count 65 = none := id rfl
theorem s_X11_count_71 : s_X11_count 71 = some b_X11_count_71 := id rfl
theorem s_X11_count_80 : s_X11_count 80 = some b_X11_count_80 := id rfl
theorem s_X11_count_84 : s_X11_count 84 = some b_X11_count_84 := id rfl
theorem s_X11_count_85 : s_X11_count 85 = some b_X11_count_85 := id rfl
theorem s_X11_count_93 : s_X11_count 93 = some b_X11_count_93 := id rfl
theorem s_X11_count_95 : s_X11_count 95 = some b_X11_count_95 := id rfl
theorem s_X11_count_100 : s_X11_count 100 = some b_X11_count_100 := id rfl
theorem s_X11_count_102 : s_X11_count 102 = none := id rfl
theorem s_X11_count_113 : s_X11_count 113 = some b_X11_count_113 := id rfl
theorem s_X11_count_123 : s_X11_count 123 = some b_X11_count_123 := id rfl
theorem s_X11_count_127 : s_X11_count 127 = some b_X11_count_127 := id rfl
theorem s_X11_count_128 : s_X11_count 128 = some b_X11_count_128 := id rfl
theorem s_X11_count_136 : s_X11_count 136 = some b_X11_count_136 := id rfl
theorem s_X11_count_138 : s_X11_count 138 = some b_X11_count_138 := id rfl
def u_X11_count : QU := ([85, 7, 13, 125, 218, 42], [85], [], [], [134], [], [])
theorem o_X11_count : q_skok cX11_count 4 u_X11_count L_X11_count = true := by decide +kernel
theorem o_X11_count_65 : q_ok cX11_count 4 u_X11_count 65 b_X11_count_65 = true := by decide +kernel
theorem o_X11_count_102 : q_ok cX11_count 4 u_X11_count 102 b_X11_count_102 = true := by decide +kernel
theorem k_X11_count : q_chk RX11 fl_X11 ld_X11 u_X11_count = true := by decide +kernel
def b_X11_status_0 : List QE := [(.aload_n 0, 1, []), (.iconst 0, 2, []), (.putfield 85, 5, []), (.aload_n 0, 6, []), (.getfield 88, 9, []), (.ireturn, 10, [])]
def L_X11_status : List (Nat × Option (List QE)) := [(0, some b_X11_status_0)]
def s_X11_status : Nat → Option (List QE) := q_look L_X11_status
theorem s_X11_status_0 : s_X11_status 0 = some b_X11_status_0 := id rfl
def u_X11_status : QU := ([85, 88], [85], [], [], [], [], [])
theorem o_X11_status : q_skok cX11_status 1 u_X11_status L_X11_status = true := by decide +kernel
theorem k_X11_status : q_chk RX11 fl_X11 ld_X11 u_X11_status = true := by decide +kernel
end
section
def q_b (c : Prop) [Decidable c] : Int := if c then 1 else 0
theorem e_b0 (c : Prop) [Decidable c] : (q_b c = 0) = ¬ c := by unfold q_b; by_cases h : c <;> simp [h]
theorem e_b1 (c : Prop) [Decidable c] : (q_b c = 1) = c := by unfold q_b; by_cases h : c <;> simp [h]
theorem e_bn (c : Prop) [Decidable c] : (q_b c = 0 ∨ q_b c = 1) = True := by unfold q_b; by_cases h : c <;> simp [h]
theorem e_bl (c : Prop) [Decidable c] : (-2147483648 ≤ q_b c) = True := by unfold q_b; by_cases h : c <;> simp [h]
theorem e_bu (c : Prop) [Decidable c] : (q_b c ≤ 2147483647) = True := by unfold q_b; by_cases h : c <;> simp [h]
theorem q_bt {c : Prop} [Decidable c] (h : c) : q_b c = 1 := if_pos h
theorem q_bf {c : Prop} [Decidable c] (h : ¬ c) : q_b c = 0 := if_neg h
theorem zero_ne_one : ((0 : Int) = 1) = False := by simp
theorem one_ne_zero : ((1 : Int) = 0) = False := by simp
theorem q_bc {c d : Prop} [Decidable c] [Decidable d] (h : c ↔ d) : q_b c = q_b d := by unfold q_b; by_cases x : c <;> simp [x, ← h]
theorem u_app (μ : QM) (a k z b j : Int) : q_up μ a k z b j = if b = a ∧ j = k then z else μ b j := id rfl
theorem q_mulR {a b : Int} (ha : q_r a) (hb : q_r b) : q_R (a * b) := by
  have h1 : (a * b).natAbs = a.natAbs * b.natAbs := Int.natAbs_mul a b
  have h2 : a.natAbs * b.natAbs ≤ 2147483648 * 2147483648 := Nat.mul_le_mul (by omega) (by omega)
  constructor <;> omega
end
section
/-! bits of an int -/
def q_bit (z : Int) (t : Nat) : Bool := (BitVec.ofInt 32 z).getLsbD t
theorem q_bv (x : Int32) : BitVec.ofInt 32 x.toInt = x.toBitVec := by
  show BitVec.ofInt 32 x.toBitVec.toInt = x.toBitVec
  exact BitVec.ofInt_toInt
theorem q_bvo (a : Int) : (Int32.ofInt a).toBitVec = BitVec.ofInt 32 a := rfl
theorem bt_and (a b : Int) (t : Nat) : q_bit (q_and a b) t = (q_bit a t && q_bit b t) := by
  unfold q_bit q_and
  rw [q_bv, Int32.toBitVec_and, BitVec.getLsbD_and]
  rfl
theorem bt_or (a b : Int) (t : Nat) : q_bit (q_or a b) t = (q_bit a t || q_bit b t) := by
  unfold q_bit q_or
  rw [q_bv, Int32.toBitVec_or, BitVec.getLsbD_or]
  rfl
theorem bt_xor (a b : Int) (t : Nat) : q_bit (q_xor a b) t = (q_bit a t ^^ q_bit b t) := by
  unfold q_bit q_xor
  rw [q_bv, Int32.toBitVec_xor, BitVec.getLsbD_xor]
  rfl
theorem bt_r_and (a b : Int) : q_r (q_and a b) := ⟨by have := Int32.le_toInt (Int32.ofInt a &&& Int32.ofInt b); unfold q_and; omega, by have := Int32.toInt_lt (Int32.ofInt a &&& Int32.ofInt b); unfold q_and; omega⟩
theorem bt_r_or (a b : Int) : q_r (q_or a b) := ⟨by have := Int32.le_toInt (Int32.ofInt a ||| Int32.ofInt b); unfold q_or; omega, by have := Int32.toInt_lt (Int32.ofInt a ||| Int32.ofInt b); unfold q_or; omega⟩
theorem bt_r_xor (a b : Int) : q_r (q_xor a b) := ⟨by have := Int32.le_toInt (Int32.ofInt a ^^^ Int32.ofInt b); unfold q_xor; omega, by have := Int32.toInt_lt (Int32.ofInt a ^^^ Int32.ofInt b); unfold q_xor; omega⟩
theorem bt_r_shl (a b : Int) : q_r (q_shl a b) := ⟨by have := Int32.le_toInt (Int32.ofInt a <<< (Int32.ofInt b &&& 31)); unfold q_shl; omega, by have := Int32.toInt_lt (Int32.ofInt a <<< (Int32.ofInt b &&& 31)); unfold q_shl; omega⟩
theorem bt_r_shr (a b : Int) : q_r (q_shr a b) := ⟨by have := Int32.le_toInt (Int32.ofInt a >>> (Int32.ofInt b &&& 31)); unfold q_shr; omega, by have := Int32.toInt_lt (Int32.ofInt a >>> (Int32.ofInt b &&& 31)); unfold q_shr; omega⟩
theorem bt_r_ush (a b : Int) : q_r (q_ush a b) := ⟨by have := Int32.le_toInt ((Int32.ofInt a).toUInt32 >>> ((Int32.ofInt b).toUInt32 &&& Int32.toUInt32 31)).toInt32; unfold q_ush; omega, by have := Int32.toInt_lt ((Int32.ofInt a).toUInt32 >>> ((Int32.ofInt b).toUInt32 &&& Int32.toUInt32 31)).toInt32; unfold q_ush; omega⟩
theorem bt_ext {a b : Int} (ha : q_r a) (hb : q_r b) (h : ∀ t, t < 32 → q_bit a t = q_bit b t) : a = b := by
  have h1 : BitVec.ofInt 32 a = BitVec.ofInt 32 b := BitVec.eq_of_getLsbD_eq (fun i hi => h i hi)
  have h2 : Int32.ofInt a = Int32.ofInt b := Int32.toBitVec.inj h1
  exact (q_eq ha hb).mp h2
theorem bt_big (a : Int) {t : Nat} (h : 32 ≤ t) : q_bit a t = false := by
  unfold q_bit
  exact BitVec.getLsbD_of_ge _ _ h
theorem bt_0 (t : Nat) : q_bit 0 t = false := by
  unfold q_bit
  simp
theorem q_sh : ∀ n : Nat, n < 32 → ((Int32.ofInt (n : Int) &&& 31).toBitVec.smod 32).toNat = n := by decide +kernel
theorem bt_shl (a : Int) {k : Int} (h0 : 0 ≤ k) (h1 : k < 32) (t : Nat) : q_bit (q_shl a k) t = (decide (t < 32) && !decide ((t : Int) < k) && q_bit a (t - k.toNat)) := by
  obtain ⟨n, rfl⟩ : ∃ n : Nat, k = (n : Int) := ⟨k.toNat, by omega⟩
  have hs := q_sh n (by omega)
  unfold q_bit q_shl
  rw [q_bv]
  show ((Int32.ofInt a).toBitVec <<< ((Int32.ofInt (n : Int) &&& 31).toBitVec.smod 32)).getLsbD t = _
  rw [BitVec.shiftLeft_eq', hs, BitVec.getLsbD_shiftLeft, q_bvo, Int.toNat_natCast]
  have e : decide ((t : Int) < (n : Int)) = decide (t < n) := by
    by_cases c : t < n
    · simp [c]
    · simp [c]
  rw [e]
theorem bt_shr {a k : Int} (ha : 0 ≤ a) (hb : a ≤ 2147483647) (h0 : 0 ≤ k) (h1 : k < 32) (t : Nat) : q_bit (q_shr a k) t = (decide (t < 32) && q_bit a (t + k.toNat)) := by
  obtain ⟨n, rfl⟩ : ∃ n : Nat, k = (n : Int) := ⟨k.toNat, by omega⟩
  have hs := q_sh n (by omega)
  unfold q_bit q_shr
  rw [q_bv]
  show (((Int32.ofInt a).toBitVec).sshiftRight' ((Int32.ofInt (n : Int) &&& 31).toBitVec.smod 32)).getLsbD t = _
  rw [BitVec.sshiftRight_eq', hs, BitVec.getLsbD_sshiftRight, q_bvo, Int.toNat_natCast]
  have hm : (BitVec.ofInt 32 a).msb = false := by
    rw [BitVec.msb_eq_toInt]
    have : (BitVec.ofInt 32 a).toInt = a := q_ti ⟨by omega, hb⟩
    rw [this]
    simp; omega
  rw [hm]
  by_cases c : t < 32
  · by_cases c2 : n + t < 32
    · have c3 : ¬ 32 ≤ t := by omega
      simp [c, c2, c3, Nat.add_comm]
      intro _
      omega
    · have c3 : ¬ 32 ≤ t := by omega
      have := BitVec.getLsbD_of_ge (BitVec.ofInt 32 a) (t + n) (by omega)
      simp [c, c2, c3, this]
  · have c3 : 32 ≤ t := by omega
    simp [c, c3]
theorem bt_nn {a : Int} (h : q_bit a 31 = false) (hr : q_r a) : 0 ≤ a := by
  have hm : (BitVec.ofInt 32 a).msb = false := by rw [BitVec.msb_eq_getLsbD_last]; exact h
  rw [BitVec.msb_eq_toInt] at hm
  have : (BitVec.ofInt 32 a).toInt = a := q_ti hr
  rw [this] at hm
  simpa using hm
theorem bt_1 (t : Nat) : q_bit 1 t = decide (t = 0) := by
  unfold q_bit
  by_cases h : t < 32
  · have : ∀ t : Nat, t < 32 → (BitVec.ofInt 32 1).getLsbD t = decide (t = 0) := by decide
    exact this t h
  · rw [BitVec.getLsbD_of_ge _ _ (by omega)]
    simp; omega
/-- one bit, as the code asks for it -/
theorem bt_get {a k : Int} (ha : 0 ≤ a) (hb : a ≤ 2147483647) (h0 : 0 ≤ k) (h1 : k < 32) : q_and (q_shr a k) 1 = q_b (q_bit a k.toNat = true) := by
  refine bt_ext (bt_r_and _ _) (by unfold q_b; split <;> decide) (fun t ht => ?_)
  rw [bt_and, bt_shr ha hb h0 h1, bt_1]
  unfold q_b
  by_cases c : t = 0
  · subst c
    by_cases d : q_bit a k.toNat = true
    · rw [if_pos d, bt_1]; simp [d]
    · rw [if_neg d, bt_0]; simp [d]
  · by_cases d : q_bit a k.toNat = true
    · rw [if_pos d, bt_1]; simp [c]
    · rw [if_neg d, bt_0]; simp [c]
theorem bt_one {k : Int} (h0 : 0 ≤ k) (h1 : k < 32) (t : Nat) : q_bit (q_shl 1 k) t = decide ((t : Int) = k) := by
  rw [bt_shl 1 h0 h1, bt_1]
  by_cases c : (t : Int) = k
  · subst c
    have : (t : Nat) < 32 := by omega
    simp [this]
  · by_cases d : (t : Int) < k
    · simp [c, d]
    · have : ¬ t - k.toNat = 0 := by omega
      simp [c, d, this]
end
section
/-! the document's words over numbers: memory filled, tiles, needs -/
def q_fill (μ : QM) (a i n v : Int) : QM := fun b j => if b = a ∧ i ≤ j ∧ j < n then v else μ b j
theorem q_fill_e {μ : QM} {a i n v : Int} (h : n ≤ i) : q_fill μ a i n v = μ := by
  funext b j
  exact if_neg (by omega)
theorem q_fill_s {μ : QM} {a i n v : Int} (h : i < n) : q_fill (q_up μ a i v) a (i + 1) n v = q_fill μ a i n v := by
  funext b j
  unfold q_fill q_up
  by_cases c1 : b = a ∧ i ≤ j ∧ j < n
  · rw [if_pos c1]
    by_cases c2 : j = i
    · rw [if_neg (by omega), if_pos ⟨c1.1, c2⟩]
    · rw [if_pos (by omega)]
  · rw [if_neg c1, if_neg (by omega), if_neg (by omega)]
theorem u_fill (μ : QM) (a i n v b j : Int) : q_fill μ a i n v b j = if b = a ∧ i ≤ j ∧ j < n then v else μ b j := id rfl
/-- there is a tile t -/
abbrev m_tl (w h t : Int) : Prop := 0 ≤ t ∧ t ≤ 8 ∧ t % 3 * 4 < w ∧ t / 3 * 4 < h
def q_tmn (w h : Int) : Nat → Int
  | 0 => 0
  | n + 1 => q_or (q_tmn w h n) (if m_tl w h (n : Int) then q_shl 1 (n : Int) else 0)
def q_tm (w h : Int) : Int := q_tmn w h 9
theorem q_tmn_bit (w h : Int) : ∀ (n : Nat), n ≤ 9 → ∀ t : Nat, q_bit (q_tmn w h n) t = decide (t < n ∧ m_tl w h (t : Int))
  | 0, _, t => by
    show q_bit 0 t = _
    rw [bt_0]
    simp
  | n + 1, hn, t => by
    show q_bit (q_or (q_tmn w h n) (if m_tl w h (n : Int) then q_shl 1 (n : Int) else 0)) t = _
    rw [bt_or, q_tmn_bit w h n (by omega) t]
    by_cases c : m_tl w h (n : Int)
    · rw [if_pos c, bt_one (by omega) (by omega)]
      by_cases e : t = n
      · subst e
        simp [c]
      · have e2 : ¬ (t : Int) = (n : Int) := by omega
        have e3 : t < n + 1 ↔ t < n := by omega
        simp [e2, e3]
    · rw [if_neg c, bt_0]
      by_cases e : t = n
      · subst e
        simp [c]
      · have e3 : t < n + 1 ↔ t < n := by omega
        simp [e3]
theorem q_tm_bit (w h : Int) (t : Nat) : q_bit (q_tm w h) t = decide (m_tl w h (t : Int)) := by
  unfold q_tm
  rw [q_tmn_bit w h 9 (by omega)]
  by_cases c : t < 9
  · simp [c]
  · have : ¬ m_tl w h (t : Int) := by omega
    simp [c, this]
theorem q_or_r {a b : Int} : q_r (q_or a b) := bt_r_or a b
theorem q_tmn_r (w h : Int) : ∀ n, q_r (q_tmn w h n)
  | 0 => q_r0
  | n + 1 => bt_r_or _ _
theorem q_tm_r (w h : Int) : q_r (q_tm w h) := q_tmn_r w h 9
/-- a mask of tiles: bits 0 to 8 alone -/
def q_mk (m : Int) : Prop := q_r m ∧ ∀ t : Nat, 9 ≤ t → q_bit m t = false
theorem q_mk_nn {m : Int} (h : q_mk m) : 0 ≤ m := bt_nn (h.2 31 (by omega)) h.1
theorem q_mk_le {m : Int} (h : q_mk m) : m ≤ 2147483647 := h.1.2
theorem q_mk_ext {a b : Int} (ha : q_mk a) (hb : q_mk b) (h : ∀ t : Nat, t < 9 → q_bit a t = q_bit b t) : a = b := bt_ext ha.1 hb.1 (fun t _ => by
  by_cases c : t < 9
  · exact h t c
  · rw [ha.2 t (by omega), hb.2 t (by omega)])
theorem q_mk_0 : q_mk 0 := ⟨by decide, fun t _ => bt_0 t⟩
theorem q_mk_or {a b : Int} (ha : q_mk a) (hb : q_mk b) : q_mk (q_or a b) := ⟨bt_r_or a b, fun t h => by rw [bt_or, ha.2 t h, hb.2 t h]; rfl⟩
theorem q_mk_and {a b : Int} (ha : q_mk a) : q_mk (q_and a b) := ⟨bt_r_and a b, fun t h => by rw [bt_and, ha.2 t h]; rfl⟩
theorem q_mk_one {k : Int} (h0 : 0 ≤ k) (h1 : k ≤ 8) : q_mk (q_shl 1 k) := ⟨bt_r_shl 1 k, fun t h => by rw [bt_one h0 (by omega)]; simp; omega⟩
theorem q_mk_tm (w h : Int) : q_mk (q_tm w h) := ⟨q_tm_r w h, fun t c => by rw [q_tm_bit]; simp; omega⟩
/-- the tiles that touch -/
def q_row (s : Int) : Int := q_or (q_or s (q_shl (q_and s (-293)) 1)) (q_shr (q_and s (-74)) 1)
def q_arn (w h s : Int) : Int := q_and (q_or (q_or (q_row s) (q_shl (q_row s) 3)) (q_shr (q_row s) 3)) (q_tm w h)
/-- what tiles of a board named these tiles need -/
def q_need (w h kind s : Int) : Int := if kind = 7 ∨ kind = 11 ∨ kind = 12 then (if s = 0 then 0 else q_tm w h) else if kind = 10 then q_arn w h s else s
theorem q_mk_arn (w h s : Int) : q_mk (q_arn w h s) := ⟨bt_r_and _ _, fun t c => by unfold q_arn; rw [bt_and, (q_mk_tm w h).2 t c, Bool.and_false]⟩
theorem q_mk_need {w h kind s : Int} (hs : q_mk s) : q_mk (q_need w h kind s) := by
  unfold q_need
  split
  · split
    · exact q_mk_0
    · exact q_mk_tm w h
  · split
    · exact q_mk_arn w h s
    · exact hs
theorem q_m293 : ∀ t : Nat, t < 32 → q_bit (-293) t = !(decide (t = 2) || decide (t = 5) || decide (t = 8)) := by decide +kernel
theorem q_m74 : ∀ t : Nat, t < 32 → q_bit (-74) t = !(decide (t = 0) || decide (t = 3) || decide (t = 6)) := by decide +kernel
theorem q_row_mk {s : Int} (hs : q_mk s) : ∀ t : Nat, q_bit (q_row s) t = (q_bit s t || (decide (0 < t) && decide (t % 3 ≠ 0) && q_bit s (t - 1)) || (decide (t % 3 ≠ 2) && q_bit s (t + 1))) := by
  intro t
  unfold q_row
  have hn := q_mk_nn (q_mk_and (b := -74) hs)
  have hu := q_mk_le (q_mk_and (b := -74) hs)
  rw [bt_or, bt_or, bt_shl _ (by omega) (by omega), bt_shr hn hu (by omega) (by omega), bt_and, bt_and]
  by_cases h9 : 10 ≤ t
  · have a1 := hs.2 t (by omega)
    have a2 := hs.2 (t - 1) (by omega)
    have a3 := hs.2 (t + 1) (by omega)
    have e1 : (1 : Int).toNat = 1 := rfl
    rw [e1, a1, a2, a3]
    simp
  · have e1 : (1 : Int).toNat = 1 := rfl
    rw [e1, q_m293 (t - 1) (by omega), q_m74 (t + 1) (by omega)]
    have : t = 0 ∨ t = 1 ∨ t = 2 ∨ t = 3 ∨ t = 4 ∨ t = 5 ∨ t = 6 ∨ t = 7 ∨ t = 8 ∨ t = 9 := by omega
    have b9 := hs.2 9 (by omega)
    have b10 := hs.2 10 (by omega)
    rcases this with rfl | rfl | rfl | rfl | rfl | rfl | rfl | rfl | rfl | rfl <;> simp [b9, b10]
theorem q_arn_bit {w h s : Int} (hs : q_mk s) (t : Nat) : q_bit (q_arn w h s) t = true ↔ m_tl w h (t : Int) ∧ ∃ u : Nat, u ≤ 8 ∧ q_bit s u = true ∧ ((t : Int) % 3 - (u : Int) % 3 ≤ 1 ∧ (u : Int) % 3 - (t : Int) % 3 ≤ 1) ∧ ((t : Int) / 3 - (u : Int) / 3 ≤ 1 ∧ (u : Int) / 3 - (t : Int) / 3 ≤ 1) := by
  unfold q_arn
  rw [bt_and, q_tm_bit]
  by_cases c : m_tl w h (t : Int)
  · have ht : t ≤ 8 := by omega
    have hr31 : q_bit (q_row s) 31 = false := by
      rw [q_row_mk hs, hs.2 31 (by omega), hs.2 30 (by omega), hs.2 32 (by omega)]; rfl
    have hrr : q_r (q_row s) := bt_r_or _ _
    have hr0 := bt_nn hr31 hrr
    have key : (q_bit (q_or (q_or (q_row s) (q_shl (q_row s) 3)) (q_shr (q_row s) 3)) t && decide (m_tl w h (t : Int))) = (q_bit (q_row s) t || (decide (3 ≤ t) && q_bit (q_row s) (t - 3)) || q_bit (q_row s) (t + 3)) := by
      rw [bt_or, bt_or, bt_shl _ (by omega) (by omega), bt_shr hr0 hrr.2 (by omega) (by omega)]
      have e3 : (3 : Int).toNat = 3 := rfl
      have e4 : t < 32 := by omega
      have e5 : (!decide ((t : Int) < 3)) = decide (3 ≤ t) := by
        by_cases x : 3 ≤ t
        · have : ¬ (t : Int) < 3 := by omega
          simp [x, this]
        · have : (t : Int) < 3 := by omega
          simp [x, this]
      simp [c, e3, e4, e5]
    rw [key, q_row_mk hs, q_row_mk hs, q_row_mk hs]
    have b9 := hs.2 9 (by omega)
    have b10 := hs.2 10 (by omega)
    have b11 := hs.2 11 (by omega)
    have b12 := hs.2 12 (by omega)
    constructor
    · intro h1
      refine ⟨c, ?_⟩
      have hh : t = 0 ∨ t = 1 ∨ t = 2 ∨ t = 3 ∨ t = 4 ∨ t = 5 ∨ t = 6 ∨ t = 7 ∨ t = 8 := by omega
      have fin : ∀ u : Nat, u ≤ 8 → q_bit s u = true → (((t : Int) % 3 - (u : Int) % 3 ≤ 1 ∧ (u : Int) % 3 - (t : Int) % 3 ≤ 1) ∧ ((t : Int) / 3 - (u : Int) / 3 ≤ 1 ∧ (u : Int) / 3 - (t : Int) / 3 ≤ 1)) → ∃ u : Nat, u ≤ 8 ∧ q_bit s u = true ∧ ((t : Int) % 3 - (u : Int) % 3 ≤ 1 ∧ (u : Int) % 3 - (t : Int) % 3 ≤ 1) ∧ ((t : Int) / 3 - (u : Int) / 3 ≤ 1 ∧ (u : Int) / 3 - (t : Int) / 3 ≤ 1) := fun u a b d => ⟨u, a, b, d⟩
      rcases hh with rfl | rfl | rfl | rfl | rfl | rfl | rfl | rfl | rfl <;> simp [b9, b10, b11, b12] at h1 <;> (repeat' (rcases h1 with h1 | h1)) <;> first | exact fin _ (by omega) h1 (by omega) | exact fin 0 (by omega) h1 (by omega) | exact fin 1 (by omega) h1 (by omega) | exact fin 2 (by omega) h1 (by omega) | exact fin 3 (by omega) h1 (by omega) | exact fin 4 (by omega) h1 (by omega) | exact fin 5 (by omega) h1 (by omega) | exact fin 6 (by omega) h1 (by omega) | exact fin 7 (by omega) h1 (by omega) | exact fin 8 (by omega) h1 (by omega)
    · rintro ⟨-, u, hu, hb, h1, h2⟩
      have hh : t = 0 ∨ t = 1 ∨ t = 2 ∨ t = 3 ∨ t = 4 ∨ t = 5 ∨ t = 6 ∨ t = 7 ∨ t = 8 := by omega
      have hu' : u = 0 ∨ u = 1 ∨ u = 2 ∨ u = 3 ∨ u = 4 ∨ u = 5 ∨ u = 6 ∨ u = 7 ∨ u = 8 := by omega
      rcases hh with rfl | rfl | rfl | rfl | rfl | rfl | rfl | rfl | rfl <;> rcases hu' with rfl | rfl | rfl | rfl | rfl | rfl | rfl | rfl | rfl <;> first | (exfalso; omega) | simp [hb]
  · simp [c]
end
section
def q_rows (μ : QM) (a i n v : Int) : QM := fun b j => if a ≤ b ∧ b < a + i ∧ 0 ≤ j ∧ j < n then v else μ b j
def k_0 : QM := fun _ _ => 0
def k_G : QM := q_up (q_up (q_up k_0 1 0 8) 1 1 8) 1 2 (q_tm 8 8)
def k_S : QM := q_fill (q_rows k_0 4 4 196 (-2000000000)) 12 0 3 0
def k_P (P : Int) : QM := q_fill (q_up k_0 P 2 0) (P + 2) 0 26 (-1)
def k_V : QM := fun a j => if a = 20 ∧ j = 5 then 39 else if a = 36 then (if j = 0 then 1 else if j = 1 then 14 else if j = 2 then -1 else if j = 3 then -14 else 0) else 0
def k_W : QM := q_rows (q_fill k_V 21 0 10 0) 24 10 196 (-2000000000)
def k_N : QM := fun a j => if a = 85 then (if j = 2 then 8 else if j = 3 then 8 else if j = 36 then -1 else 0) else if a = 104 then (if 0 ≤ j ∧ j < 26 then 0 else -1) else 0
def k_M : QM := q_fill (q_fill (q_fill k_N 86 0 576 (-2000000000)) 88 0 3 0) 94 0 90 0
def k_all : QM := fun a j => if a = 0 then (if j = 5 then 39 else if j = 6 then 62 else if j = 7 then -1 else 0) else if a = 1 then k_G a j else if a ≤ 12 then k_S a j else if a ≤ 14 then 0 else if a ≤ 19 then (if a = 15 ∧ j = 1 then 62 else 0) else if a ≤ 38 then k_W a j else if a ≤ 61 then k_P 39 a j else if a ≤ 84 then k_P 62 a j else k_M a j
def l_ad (x y : Nat) (a : Nat → Nat) (f : Nat → Nat → Nat) (g : Nat → Nat) (tk tv : Nat → Nat) (tf : Nat) : Int → Nat := fun z => if z < 106 then [x, (a 0), (a 1), (f 1 0), (f 1 1), (f 1 2), (f 1 3), (f 1 4), (f 1 5), (f 1 6), (f 1 7), (f 1 8), (f 1 9), (a 2), (f 2 0), (a 5), (f 5 0), (f 5 1), (f 5 2), (f 5 3), (a 6), (f 6 0), (f 6 1), (f 6 2), (f 6 3), (f 6 4), (f 6 5), (f 6 6), (f 6 7), (f 6 8), (f 6 9), (f 6 10), (f 6 11), (f 6 12), (f 6 13), (f 6 14), (f 6 15), (f 6 16), (f 6 17), (a 3), (f 3 0), (f 3 1), (f 3 2), (f 3 4), (f 3 6), (f 3 8), (f 3 10), (f 3 12), (f 3 14), (f 3 16), (f 3 18), (f 3 20), (f 3 3), (f 3 5), (f 3 7), (f 3 9), (f 3 11), (f 3 13), (f 3 15), (f 3 17), (f 3 19), (f 3 21), (a 4), (f 4 0), (f 4 1), (f 4 2), (f 4 4), (f 4 6), (f 4 8), (f 4 10), (f 4 12), (f 4 14), (f 4 16), (f 4 18), (f 4 20), (f 4 3), (f 4 5), (f 4 7), (f 4 9), (f 4 11), (f 4 13), (f 4 15), (f 4 17), (f 4 19), (f 4 21), y, (g 0), (g 1), (g 2), (g 3), (g 4), (g 5), (g 6), (g 7), (g 8), (g 9), (g 10), (g 11), (g 12), (g 13), (g 14), (g 15), (g 16), (g 17), (g 18), (g 19)].getD z.toNat 0 else if z < 2000 then tk (z - 1000).toNat else if z < 3000 then tv (z - 2000).toNat else tf
def q_Tm (N : List Int) : Int → Option QS := fun a => if a ∈ N then q_T a else none
theorem q_wsM {N : List Int} {ad : Int → Nat} {cy : Nat → ClassId} {μ : QM} : q_ws (q_Tm N) N ad cy μ = q_ws q_T N ad cy μ := by
  unfold q_ws
  refine List.map_congr_left (fun a ha => ?_)
  unfold q_Tm
  rw [if_pos ha]

def w_X6_init (cy : Nat → ClassId) (h0 : Nat) (r : Nat → Nat) : va_W := [(h0, .inr (6, [.long 0, .int 0, .int 0, .int 0]))]
def w_X4_init (cy : Nat → ClassId) (h0 : Nat) (r : Nat → Nat) : va_W := [(h0, .inr (4, [.ref (r 0), .int 0, .int 0, .int 0, .int 0])), (r 0, .inl (cy 0, 3, .inl (fun _ => 0)))]
def w_X7_init (cy : Nat → ClassId) (h0 : Nat) (r : Nat → Nat) : va_W := [(h0, .inr (7, [.ref (r 0), .int 0])), (r 0, .inl (cy 3, 300, .inl (fun _ => 0)))]
def w_X8_init (cy : Nat → ClassId) (h0 a1 : Nat) (r : Nat → Nat) : va_W := [(h0, .inr (8, [.ref a1, .ref (r 0), .ref (r 1), .ref (r 2), .int 0, .int 0])), (r 0, .inl (cy 0, 301, .inl (fun _ => 0))), (r 1, .inl (cy 0, 301, .inl (fun _ => 0))), (r 2, .inl (cy 0, 301, .inl (fun _ => 0)))]
def w_X3_init (cy : Nat → ClassId) (h0 a1 a2 : Nat) (r : Nat → Nat) : va_W := [(h0, .inr (3, [.ref (r 0), .ref a2])), (r 0, .inr (8, [.ref a1, .ref (r 1), .ref (r 2), .ref (r 3), .int 0, .int 0])), (r 1, .inl (cy 0, 301, .inl (fun _ => 0))), (r 2, .inl (cy 0, 301, .inl (fun _ => 0))), (r 3, .inl (cy 0, 301, .inl (fun _ => 0)))]
def w_X0_init (cy : Nat → ClassId) (h0 : Nat) (r : Nat → Nat) : va_W := [(h0, .inr (0, [.int (Int32.ofInt (k_G 1 0)), .int (Int32.ofInt (k_G 1 1)), .int (Int32.ofInt (k_G 1 2))]))]
def w_X5_init (cy : Nat → ClassId) (h0 : Nat) (r : Nat → Nat) : va_W := [(h0, .inr (5, [.ref (r 0), .ref (r 5), .ref (r 9)])), (r 0, .inl (cy 5, 4, .inr (.inr (.inr (.inr (fun j => some ([r 1, r 2, r 3, r 4].getD j 0))))))), (r 1, .inl (cy 0, 196, .inl (fun j => Int32.ofInt (k_S 4 j)))), (r 2, .inl (cy 0, 196, .inl (fun j => Int32.ofInt (k_S 5 j)))), (r 3, .inl (cy 0, 196, .inl (fun j => Int32.ofInt (k_S 6 j)))), (r 4, .inl (cy 0, 196, .inl (fun j => Int32.ofInt (k_S 7 j)))), (r 5, .inl (cy 5, 3, .inr (.inr (.inr (.inr (fun j => some ([r 6, r 7, r 8].getD j 0))))))), (r 6, .inl (cy 0, 784, .inl (fun j => Int32.ofInt (k_S 9 j)))), (r 7, .inl (cy 0, 784, .inl (fun j => Int32.ofInt (k_S 10 j)))), (r 8, .inl (cy 0, 784, .inl (fun j => Int32.ofInt (k_S 11 j)))), (r 9, .inl (cy 2, 3, .inl (fun j => Int32.ofInt (k_S 12 j))))]
def w_X1_init (cy : Nat → ClassId) (h0 a1 a2 a3 : Nat) (r : Nat → Nat) : va_W := [(h0, .inr (1, [.ref a1, .ref a2, .ref a3, .ref (r 0), .ref (r 1), .ref (r 2), .ref (r 3)])), (r 0, .inr (6, [.long 0, .int 0, .int 0, .int 0])), (r 1, .inl (cy 0, 4, .inl (fun j => Int32.ofInt (k_V 36 j)))), (r 2, .inl (cy 0, 196, .inl (fun _ => 0))), (r 3, .inl (cy 2, 196, .inl (fun _ => 0)))]
def w_X2_init39 (cy : Nat → ClassId) (h0 : Nat) (r : Nat → Nat) : va_W := [(h0, .inr (2, [.ref (r 0), .ref (r 1), .int (Int32.ofInt ((k_P 39) 39 2))])), (r 0, .inl (cy 4, 10, .inr (.inr (.inr (.inr (fun j => some ([r 2, r 4, r 6, r 8, r 10, r 12, r 14, r 16, r 18, r 20].getD j 0))))))), (r 1, .inl (cy 0, 26, .inl (fun j => Int32.ofInt ((k_P 39) 41 j)))), (r 2, .inr (4, [.ref (r 3), .int 0, .int 0, .int 0, .int 0])), (r 3, .inl (cy 0, 3, .inl (fun _ => 0))), (r 4, .inr (4, [.ref (r 5), .int 0, .int 0, .int 0, .int 0])), (r 5, .inl (cy 0, 3, .inl (fun _ => 0))), (r 6, .inr (4, [.ref (r 7), .int 0, .int 0, .int 0, .int 0])), (r 7, .inl (cy 0, 3, .inl (fun _ => 0))), (r 8, .inr (4, [.ref (r 9), .int 0, .int 0, .int 0, .int 0])), (r 9, .inl (cy 0, 3, .inl (fun _ => 0))), (r 10, .inr (4, [.ref (r 11), .int 0, .int 0, .int 0, .int 0])), (r 11, .inl (cy 0, 3, .inl (fun _ => 0))), (r 12, .inr (4, [.ref (r 13), .int 0, .int 0, .int 0, .int 0])), (r 13, .inl (cy 0, 3, .inl (fun _ => 0))), (r 14, .inr (4, [.ref (r 15), .int 0, .int 0, .int 0, .int 0])), (r 15, .inl (cy 0, 3, .inl (fun _ => 0))), (r 16, .inr (4, [.ref (r 17), .int 0, .int 0, .int 0, .int 0])), (r 17, .inl (cy 0, 3, .inl (fun _ => 0))), (r 18, .inr (4, [.ref (r 19), .int 0, .int 0, .int 0, .int 0])), (r 19, .inl (cy 0, 3, .inl (fun _ => 0))), (r 20, .inr (4, [.ref (r 21), .int 0, .int 0, .int 0, .int 0])), (r 21, .inl (cy 0, 3, .inl (fun _ => 0)))]
def w_X2_init62 (cy : Nat → ClassId) (h0 : Nat) (r : Nat → Nat) : va_W := [(h0, .inr (2, [.ref (r 0), .ref (r 1), .int (Int32.ofInt ((k_P 62) 62 2))])), (r 0, .inl (cy 4, 10, .inr (.inr (.inr (.inr (fun j => some ([r 2, r 4, r 6, r 8, r 10, r 12, r 14, r 16, r 18, r 20].getD j 0))))))), (r 1, .inl (cy 0, 26, .inl (fun j => Int32.ofInt ((k_P 62) 64 j)))), (r 2, .inr (4, [.ref (r 3), .int 0, .int 0, .int 0, .int 0])), (r 3, .inl (cy 0, 3, .inl (fun _ => 0))), (r 4, .inr (4, [.ref (r 5), .int 0, .int 0, .int 0, .int 0])), (r 5, .inl (cy 0, 3, .inl (fun _ => 0))), (r 6, .inr (4, [.ref (r 7), .int 0, .int 0, .int 0, .int 0])), (r 7, .inl (cy 0, 3, .inl (fun _ => 0))), (r 8, .inr (4, [.ref (r 9), .int 0, .int 0, .int 0, .int 0])), (r 9, .inl (cy 0, 3, .inl (fun _ => 0))), (r 10, .inr (4, [.ref (r 11), .int 0, .int 0, .int 0, .int 0])), (r 11, .inl (cy 0, 3, .inl (fun _ => 0))), (r 12, .inr (4, [.ref (r 13), .int 0, .int 0, .int 0, .int 0])), (r 13, .inl (cy 0, 3, .inl (fun _ => 0))), (r 14, .inr (4, [.ref (r 15), .int 0, .int 0, .int 0, .int 0])), (r 15, .inl (cy 0, 3, .inl (fun _ => 0))), (r 16, .inr (4, [.ref (r 17), .int 0, .int 0, .int 0, .int 0])), (r 17, .inl (cy 0, 3, .inl (fun _ => 0))), (r 18, .inr (4, [.ref (r 19), .int 0, .int 0, .int 0, .int 0])), (r 19, .inl (cy 0, 3, .inl (fun _ => 0))), (r 20, .inr (4, [.ref (r 21), .int 0, .int 0, .int 0, .int 0])), (r 21, .inl (cy 0, 3, .inl (fun _ => 0)))]
def w_X9_init (cy : Nat → ClassId) (h0 a1 a2 a3 : Nat) (r : Nat → Nat) : va_W := [(h0, .inr (9, [.ref a1, .ref (r 13), .ref (r 0), .ref (r 1), .ref (r 2), .ref a3, .int 0])), (r 0, .inl (cy 0, 10, .inl (fun j => Int32.ofInt (k_W 21 j)))), (r 1, .inl (cy 0, 10, .inl (fun _ => 0))), (r 2, .inl (cy 5, 10, .inr (.inr (.inr (.inr (fun j => some ([r 3, r 4, r 5, r 6, r 7, r 8, r 9, r 10, r 11, r 12].getD j 0))))))), (r 3, .inl (cy 0, 196, .inl (fun j => Int32.ofInt (k_W 24 j)))), (r 4, .inl (cy 0, 196, .inl (fun j => Int32.ofInt (k_W 25 j)))), (r 5, .inl (cy 0, 196, .inl (fun j => Int32.ofInt (k_W 26 j)))), (r 6, .inl (cy 0, 196, .inl (fun j => Int32.ofInt (k_W 27 j)))), (r 7, .inl (cy 0, 196, .inl (fun j => Int32.ofInt (k_W 28 j)))), (r 8, .inl (cy 0, 196, .inl (fun j => Int32.ofInt (k_W 29 j)))), (r 9, .inl (cy 0, 196, .inl (fun j => Int32.ofInt (k_W 30 j)))), (r 10, .inl (cy 0, 196, .inl (fun j => Int32.ofInt (k_W 31 j)))), (r 11, .inl (cy 0, 196, .inl (fun j => Int32.ofInt (k_W 32 j)))), (r 12, .inl (cy 0, 196, .inl (fun j => Int32.ofInt (k_W 33 j)))), (r 13, .inr (1, [.ref a1, .ref a2, .ref (r 2), .ref (r 14), .ref (r 15), .ref (r 16), .ref (r 17)])), (r 14, .inr (6, [.long 0, .int 0, .int 0, .int 0])), (r 15, .inl (cy 0, 4, .inl (fun j => Int32.ofInt (k_V 36 j)))), (r 16, .inl (cy 0, 196, .inl (fun _ => 0))), (r 17, .inl (cy 2, 196, .inl (fun _ => 0)))]
def w_X11_init (cy : Nat → ClassId) (h0 : Nat) (r : Nat → Nat) : va_W := [(h0, .inr (11, [.int (Int32.ofInt (k_M 85 0)), .int (Int32.ofInt (k_M 85 1)), .int (Int32.ofInt (k_M 85 2)), .int (Int32.ofInt (k_M 85 3)), .ref (r 0), .ref (r 1), .ref (r 2), .int (Int32.ofInt (k_M 85 7)), .ref (r 3), .ref (r 4), .ref (r 5), .ref (r 6), .ref (r 7), .ref (r 8), .int (Int32.ofInt (k_M 85 14)), .ref (r 9), .ref (r 10), .int (Int32.ofInt (k_M 85 17)), .long 0, .long 0, .long 0, .ref (r 11), .ref (r 12), .int (Int32.ofInt (k_M 85 23)), .ref (r 13), .ref (r 14), .ref (r 15), .ref (r 16), .ref (r 17), .ref (r 18), .ref (r 19), .int (Int32.ofInt (k_M 85 31)), .int (Int32.ofInt (k_M 85 32)), .int (Int32.ofInt (k_M 85 33)), .int (Int32.ofInt (k_M 85 34)), .long 0, .int (Int32.ofInt (k_M 85 36)), .int 0])), (r 0, .inl (cy 0, 576, .inl (fun j => Int32.ofInt (k_M 86 j)))), (r 1, .inl (cy 0, 1728, .inl (fun _ => 0))), (r 2, .inl (cy 2, 3, .inl (fun j => Int32.ofInt (k_M 88 j)))), (r 3, .inl (cy 0, 10, .inl (fun _ => 0))), (r 4, .inl (cy 0, 10, .inl (fun _ => 0))), (r 5, .inl (cy 0, 10, .inl (fun _ => 0))), (r 6, .inl (cy 0, 30, .inl (fun _ => 0))), (r 7, .inl (cy 0, 10, .inl (fun _ => 0))), (r 8, .inl (cy 2, 90, .inl (fun j => Int32.ofInt (k_M 94 j)))), (r 9, .inl (cy 0, 100, .inl (fun _ => 0))), (r 10, .inl (cy 0, 1440, .inl (fun _ => 0))), (r 11, .inl (cy 1, 144, .inr (.inl (fun _ => 0)))), (r 12, .inl (cy 0, 144, .inl (fun _ => 0))), (r 13, .inl (cy 0, 10, .inl (fun _ => 0))), (r 14, .inl (cy 0, 10, .inl (fun _ => 0))), (r 15, .inl (cy 0, 10, .inl (fun _ => 0))), (r 16, .inl (cy 0, 30, .inl (fun _ => 0))), (r 17, .inl (cy 0, 10, .inl (fun _ => 0))), (r 18, .inl (cy 0, 26, .inl (fun j => Int32.ofInt (k_M 104 j)))), (r 19, .inl (cy 0, 300, .inl (fun _ => 0)))]
def w_X10_init (cy : Nat → ClassId) (h0 : Nat) (a : Nat → Nat) (f : Nat → Nat → Nat) : va_W := ((((((([(h0, .inr (10, [.ref (a 0), .ref (a 1), .ref (a 2), .ref (a 5), .ref (a 6), .ref (a 3), .ref (a 4), .int (-1), .int 0]))] ++ (w_X0_init cy (a 0) (f 0))) ++ (w_X5_init cy (a 1) (f 1))) ++ (w_X7_init cy (a 2) (f 2))) ++ (w_X2_init39 cy (a 3) (f 3))) ++ (w_X2_init62 cy (a 4) (f 4))) ++ (w_X3_init cy (a 5) (a 2) (a 4) (f 5))) ++ (w_X9_init cy (a 6) (a 0) (a 1) (a 3) (f 6)))
section CN
variable {D : va_G} {a : Nat} {ws : va_W} {H : Heap}
theorem cn_fix {cA : ClassId} {n q0 : Nat} {f g : Nat → Option Nat} (hP : va_P D vwCl ws H) (ha : ws[q0]? = some (a, .inl (cA, n, .inr (.inr (.inr (.inr f)))))) (hfg : ∀ j : Nat, j < n → f j = g j) : va_P D vwCl (ws.set q0 (a, .inl (cA, n, .inr (.inr (.inr (.inr g)))))) H := by
  intro k q hk
  by_cases c : q0 = k
  · subst c
    rw [List.getElem?_set_self (List.getElem?_eq_some_iff.mp ha).1] at hk
    cases hk
    have := hP q0 _ ha
    show H[a]? = some (vp_cell cA (n, .inr (.inr (.inr (.inr g)))))
    have h2 : H[a]? = some (vp_cell cA (n, .inr (.inr (.inr (.inr f))))) := this
    rw [h2, vp_cell_q, vp_cell_q]
    congr 1
    unfold arrV
    congr 1
    refine Array.ext (by simp) (fun i h1 h2 => ?_)
    simp only [Array.getElem_ofFn]
    rw [hfg i (by simpa using h1)]
  · rw [List.getElem?_set_ne c] at hk
    exact hP k q hk

end CN
end
section
/-! entries of the world, evaluated -/
def en_go {α β : Type} (f : Nat → α → β) : Nat → List α → List β
  | _, [] => []
  | n, a :: l => f n a :: en_go f (n + 1) l
theorem en_mi {α β : Type} (f : Nat → α → β) : ∀ (l : List α) (n : Nat), l.mapIdx (fun i => f (i + n)) = en_go f n l := by
  intro l
  induction l with
  | nil => intro n; rfl
  | cons a l ih =>
    intro n
    rw [List.mapIdx_cons]
    show f (0 + n) a :: _ = f n a :: en_go f (n + 1) l
    rw [Nat.zero_add, ← ih (n + 1)]
    congr 2
    funext i
    rw [Nat.add_assoc, Nat.add_comm 1 n]
theorem en_m0 {α β : Type} (f : Nat → α → β) (l : List α) : l.mapIdx f = en_go f 0 l := en_mi f l 0
theorem en_ob {ad : Int → Nat} {cy : Nat → ClassId} {μ : QM} {a : Int} {ci : Nat} {ks : List QK} : q_ent ad cy μ a (some (.inl (ci, ks))) = .inr (ci, en_go (fun k sk => q_cv ad (q_sv μ a k sk)) 0 ks) := by
  show Sum.inr (ci, ks.mapIdx (fun k sk => q_cv ad (q_sv μ a k sk))) = _
  rw [en_m0]
theorem en_0 {ad : Int → Nat} {cy : Nat → ClassId} {μ : QM} : q_ent ad cy μ 0 (q_T 0) = (.inr (10, [.ref (ad 1), .ref (ad 2), .ref (ad 13), .ref (ad 15), .ref (ad 20), va_rf (q_rf ad (μ 0 5)), va_rf (q_rf ad (μ 0 6)), .int (Int32.ofInt (μ 0 7)), .int (Int32.ofInt (μ 0 8))]) : va_E) := by
  rw [T_0, en_ob]
  rfl
theorem en_1 {ad : Int → Nat} {cy : Nat → ClassId} {μ : QM} : q_ent ad cy μ 1 (q_T 1) = (.inr (0, [.int (Int32.ofInt (μ 1 0)), .int (Int32.ofInt (μ 1 1)), .int (Int32.ofInt (μ 1 2))]) : va_E) := by
  rw [T_1, en_ob]
  rfl
theorem en_2 {ad : Int → Nat} {cy : Nat → ClassId} {μ : QM} : q_ent ad cy μ 2 (q_T 2) = (.inr (5, [.ref (ad 3), .ref (ad 8), .ref (ad 12)]) : va_E) := by
  rw [T_2, en_ob]
  rfl
theorem en_3 {ad : Int → Nat} {cy : Nat → ClassId} {μ : QM} : q_ent ad cy μ 3 (q_T 3) = (.inl (cy 5, 4, .inr (.inr (.inr (.inr (fun j => q_rf ad (4 + (j : Int))))))) : va_E) := by
  rw [T_3]
  rfl
theorem en_4 {ad : Int → Nat} {cy : Nat → ClassId} {μ : QM} : q_ent ad cy μ 4 (q_T 4) = (.inl (cy 0, 196, .inl (fun j => Int32.ofInt (μ 4 j))) : va_E) := by
  rw [T_4]
  rfl
theorem en_5 {ad : Int → Nat} {cy : Nat → ClassId} {μ : QM} : q_ent ad cy μ 5 (q_T 5) = (.inl (cy 0, 196, .inl (fun j => Int32.ofInt (μ 5 j))) : va_E) := by
  rw [T_5]
  rfl
theorem en_6 {ad : Int → Nat} {cy : Nat → ClassId} {μ : QM} : q_ent ad cy μ 6 (q_T 6) = (.inl (cy 0, 196, .inl (fun j => Int32.ofInt (μ 6 j))) : va_E) := by
  rw [T_6]
  rfl
theorem en_7 {ad : Int → Nat} {cy : Nat → ClassId} {μ : QM} : q_ent ad cy μ 7 (q_T 7) = (.inl (cy 0, 196, .inl (fun j => Int32.ofInt (μ 7 j))) : va_E) := by
  rw [T_7]
  rfl
theorem en_8 {ad : Int → Nat} {cy : Nat → ClassId} {μ : QM} : q_ent ad cy μ 8 (q_T 8) = (.inl (cy 5, 3, .inr (.inr (.inr (.inr (fun j => q_rf ad (9 + (j : Int))))))) : va_E) := by
  rw [T_8]
  rfl
theorem en_9 {ad : Int → Nat} {cy : Nat → ClassId} {μ : QM} : q_ent ad cy μ 9 (q_T 9) = (.inl (cy 0, 784, .inl (fun j => Int32.ofInt (μ 9 j))) : va_E) := by
  rw [T_9]
  rfl
theorem en_10 {ad : Int → Nat} {cy : Nat → ClassId} {μ : QM} : q_ent ad cy μ 10 (q_T 10) = (.inl (cy 0, 784, .inl (fun j => Int32.ofInt (μ 10 j))) : va_E) := by
  rw [T_10]
  rfl
theorem en_11 {ad : Int → Nat} {cy : Nat → ClassId} {μ : QM} : q_ent ad cy μ 11 (q_T 11) = (.inl (cy 0, 784, .inl (fun j => Int32.ofInt (μ 11 j))) : va_E) := by
  rw [T_11]
  rfl
theorem en_12 {ad : Int → Nat} {cy : Nat → ClassId} {μ : QM} : q_ent ad cy μ 12 (q_T 12) = (.inl (cy 2, 3, .inl (fun j => Int32.ofInt (μ 12 j))) : va_E) := by
  rw [T_12]
  rfl
theorem en_13 {ad : Int → Nat} {cy : Nat → ClassId} {μ : QM} : q_ent ad cy μ 13 (q_T 13) = (.inr (7, [.ref (ad 14), .int (Int32.ofInt (μ 13 1))]) : va_E) := by
  rw [T_13, en_ob]
  rfl
theorem en_14 {ad : Int → Nat} {cy : Nat → ClassId} {μ : QM} : q_ent ad cy μ 14 (q_T 14) = (.inl (cy 3, 300, .inl (fun j => Int32.ofInt (μ 14 j))) : va_E) := by
  rw [T_14]
  rfl
theorem en_15 {ad : Int → Nat} {cy : Nat → ClassId} {μ : QM} : q_ent ad cy μ 15 (q_T 15) = (.inr (3, [.ref (ad 16), va_rf (q_rf ad (μ 15 1))]) : va_E) := by
  rw [T_15, en_ob]
  rfl
theorem en_16 {ad : Int → Nat} {cy : Nat → ClassId} {μ : QM} : q_ent ad cy μ 16 (q_T 16) = (.inr (8, [.ref (ad 13), .ref (ad 17), .ref (ad 18), .ref (ad 19), .int (Int32.ofInt (μ 16 4)), .int (Int32.ofInt (μ 16 5))]) : va_E) := by
  rw [T_16, en_ob]
  rfl
theorem en_17 {ad : Int → Nat} {cy : Nat → ClassId} {μ : QM} : q_ent ad cy μ 17 (q_T 17) = (.inl (cy 0, 301, .inl (fun j => Int32.ofInt (μ 17 j))) : va_E) := by
  rw [T_17]
  rfl
theorem en_18 {ad : Int → Nat} {cy : Nat → ClassId} {μ : QM} : q_ent ad cy μ 18 (q_T 18) = (.inl (cy 0, 301, .inl (fun j => Int32.ofInt (μ 18 j))) : va_E) := by
  rw [T_18]
  rfl
theorem en_19 {ad : Int → Nat} {cy : Nat → ClassId} {μ : QM} : q_ent ad cy μ 19 (q_T 19) = (.inl (cy 0, 301, .inl (fun j => Int32.ofInt (μ 19 j))) : va_E) := by
  rw [T_19]
  rfl
theorem en_20 {ad : Int → Nat} {cy : Nat → ClassId} {μ : QM} : q_ent ad cy μ 20 (q_T 20) = (.inr (9, [.ref (ad 1), .ref (ad 34), .ref (ad 21), .ref (ad 22), .ref (ad 23), va_rf (q_rf ad (μ 20 5)), .int (Int32.ofInt (μ 20 6))]) : va_E) := by
  rw [T_20, en_ob]
  rfl
theorem en_21 {ad : Int → Nat} {cy : Nat → ClassId} {μ : QM} : q_ent ad cy μ 21 (q_T 21) = (.inl (cy 0, 10, .inl (fun j => Int32.ofInt (μ 21 j))) : va_E) := by
  rw [T_21]
  rfl
theorem en_22 {ad : Int → Nat} {cy : Nat → ClassId} {μ : QM} : q_ent ad cy μ 22 (q_T 22) = (.inl (cy 0, 10, .inl (fun j => Int32.ofInt (μ 22 j))) : va_E) := by
  rw [T_22]
  rfl
theorem en_23 {ad : Int → Nat} {cy : Nat → ClassId} {μ : QM} : q_ent ad cy μ 23 (q_T 23) = (.inl (cy 5, 10, .inr (.inr (.inr (.inr (fun j => q_rf ad (24 + (j : Int))))))) : va_E) := by
  rw [T_23]
  rfl
theorem en_24 {ad : Int → Nat} {cy : Nat → ClassId} {μ : QM} : q_ent ad cy μ 24 (q_T 24) = (.inl (cy 0, 196, .inl (fun j => Int32.ofInt (μ 24 j))) : va_E) := by
  rw [T_24]
  rfl
theorem en_25 {ad : Int → Nat} {cy : Nat → ClassId} {μ : QM} : q_ent ad cy μ 25 (q_T 25) = (.inl (cy 0, 196, .inl (fun j => Int32.ofInt (μ 25 j))) : va_E) := by
  rw [T_25]
  rfl
theorem en_26 {ad : Int → Nat} {cy : Nat → ClassId} {μ : QM} : q_ent ad cy μ 26 (q_T 26) = (.inl (cy 0, 196, .inl (fun j => Int32.ofInt (μ 26 j))) : va_E) := by
  rw [T_26]
  rfl
theorem en_27 {ad : Int → Nat} {cy : Nat → ClassId} {μ : QM} : q_ent ad cy μ 27 (q_T 27) = (.inl (cy 0, 196, .inl (fun j => Int32.ofInt (μ 27 j))) : va_E) := by
  rw [T_27]
  rfl
theorem en_28 {ad : Int → Nat} {cy : Nat → ClassId} {μ : QM} : q_ent ad cy μ 28 (q_T 28) = (.inl (cy 0, 196, .inl (fun j => Int32.ofInt (μ 28 j))) : va_E) := by
  rw [T_28]
  rfl
theorem en_29 {ad : Int → Nat} {cy : Nat → ClassId} {μ : QM} : q_ent ad cy μ 29 (q_T 29) = (.inl (cy 0, 196, .inl (fun j => Int32.ofInt (μ 29 j))) : va_E) := by
  rw [T_29]
  rfl
theorem en_30 {ad : Int → Nat} {cy : Nat → ClassId} {μ : QM} : q_ent ad cy μ 30 (q_T 30) = (.inl (cy 0, 196, .inl (fun j => Int32.ofInt (μ 30 j))) : va_E) := by
  rw [T_30]
  rfl
theorem en_31 {ad : Int → Nat} {cy : Nat → ClassId} {μ : QM} : q_ent ad cy μ 31 (q_T 31) = (.inl (cy 0, 196, .inl (fun j => Int32.ofInt (μ 31 j))) : va_E) := by
  rw [T_31]
  rfl
theorem en_32 {ad : Int → Nat} {cy : Nat → ClassId} {μ : QM} : q_ent ad cy μ 32 (q_T 32) = (.inl (cy 0, 196, .inl (fun j => Int32.ofInt (μ 32 j))) : va_E) := by
  rw [T_32]
  rfl
theorem en_33 {ad : Int → Nat} {cy : Nat → ClassId} {μ : QM} : q_ent ad cy μ 33 (q_T 33) = (.inl (cy 0, 196, .inl (fun j => Int32.ofInt (μ 33 j))) : va_E) := by
  rw [T_33]
  rfl
theorem en_34 {ad : Int → Nat} {cy : Nat → ClassId} {μ : QM} : q_ent ad cy μ 34 (q_T 34) = (.inr (1, [.ref (ad 1), .ref (ad 2), .ref (ad 23), .ref (ad 35), .ref (ad 36), .ref (ad 37), .ref (ad 38)]) : va_E) := by
  rw [T_34, en_ob]
  rfl
theorem en_35 {ad : Int → Nat} {cy : Nat → ClassId} {μ : QM} : q_ent ad cy μ 35 (q_T 35) = (.inr (6, [.long (Int64.ofInt (μ 35 0)), .int (Int32.ofInt (μ 35 1)), .int (Int32.ofInt (μ 35 2)), .int (Int32.ofInt (μ 35 3))]) : va_E) := by
  rw [T_35, en_ob]
  rfl
theorem en_36 {ad : Int → Nat} {cy : Nat → ClassId} {μ : QM} : q_ent ad cy μ 36 (q_T 36) = (.inl (cy 0, 4, .inl (fun j => Int32.ofInt (μ 36 j))) : va_E) := by
  rw [T_36]
  rfl
theorem en_37 {ad : Int → Nat} {cy : Nat → ClassId} {μ : QM} : q_ent ad cy μ 37 (q_T 37) = (.inl (cy 0, 196, .inl (fun j => Int32.ofInt (μ 37 j))) : va_E) := by
  rw [T_37]
  rfl
theorem en_38 {ad : Int → Nat} {cy : Nat → ClassId} {μ : QM} : q_ent ad cy μ 38 (q_T 38) = (.inl (cy 2, 196, .inl (fun j => Int32.ofInt (μ 38 j))) : va_E) := by
  rw [T_38]
  rfl
theorem en_39 {ad : Int → Nat} {cy : Nat → ClassId} {μ : QM} : q_ent ad cy μ 39 (q_T 39) = (.inr (2, [.ref (ad 40), .ref (ad 41), .int (Int32.ofInt (μ 39 2))]) : va_E) := by
  rw [T_39, en_ob]
  rfl
theorem en_40 {ad : Int → Nat} {cy : Nat → ClassId} {μ : QM} : q_ent ad cy μ 40 (q_T 40) = (.inl (cy 4, 10, .inr (.inr (.inr (.inr (fun j => q_rf ad (42 + (j : Int))))))) : va_E) := by
  rw [T_40]
  rfl
theorem en_41 {ad : Int → Nat} {cy : Nat → ClassId} {μ : QM} : q_ent ad cy μ 41 (q_T 41) = (.inl (cy 0, 26, .inl (fun j => Int32.ofInt (μ 41 j))) : va_E) := by
  rw [T_41]
  rfl
theorem en_42 {ad : Int → Nat} {cy : Nat → ClassId} {μ : QM} : q_ent ad cy μ 42 (q_T 42) = (.inr (4, [.ref (ad 52), .int (Int32.ofInt (μ 42 1)), .int (Int32.ofInt (μ 42 2)), .int (Int32.ofInt (μ 42 3)), .int (Int32.ofInt (μ 42 4))]) : va_E) := by
  rw [T_42, en_ob]
  rfl
theorem en_43 {ad : Int → Nat} {cy : Nat → ClassId} {μ : QM} : q_ent ad cy μ 43 (q_T 43) = (.inr (4, [.ref (ad 53), .int (Int32.ofInt (μ 43 1)), .int (Int32.ofInt (μ 43 2)), .int (Int32.ofInt (μ 43 3)), .int (Int32.ofInt (μ 43 4))]) : va_E) := by
  rw [T_43, en_ob]
  rfl
theorem en_44 {ad : Int → Nat} {cy : Nat → ClassId} {μ : QM} : q_ent ad cy μ 44 (q_T 44) = (.inr (4, [.ref (ad 54), .int (Int32.ofInt (μ 44 1)), .int (Int32.ofInt (μ 44 2)), .int (Int32.ofInt (μ 44 3)), .int (Int32.ofInt (μ 44 4))]) : va_E) := by
  rw [T_44, en_ob]
  rfl
theorem en_45 {ad : Int → Nat} {cy : Nat → ClassId} {μ : QM} : q_ent ad cy μ 45 (q_T 45) = (.inr (4, [.ref (ad 55), .int (Int32.ofInt (μ 45 1)), .int (Int32.ofInt (μ 45 2)), .int (Int32.ofInt (μ 45 3)), .int (Int32.ofInt (μ 45 4))]) : va_E) := by
  rw [T_45, en_ob]
  rfl
theorem en_46 {ad : Int → Nat} {cy : Nat → ClassId} {μ : QM} : q_ent ad cy μ 46 (q_T 46) = (.inr (4, [.ref (ad 56), .int (Int32.ofInt (μ 46 1)), .int (Int32.ofInt (μ 46 2)), .int (Int32.ofInt (μ 46 3)), .int (Int32.ofInt (μ 46 4))]) : va_E) := by
  rw [T_46, en_ob]
  rfl
theorem en_47 {ad : Int → Nat} {cy : Nat → ClassId} {μ : QM} : q_ent ad cy μ 47 (q_T 47) = (.inr (4, [.ref (ad 57), .int (Int32.ofInt (μ 47 1)), .int (Int32.ofInt (μ 47 2)), .int (Int32.ofInt (μ 47 3)), .int (Int32.ofInt (μ 47 4))]) : va_E) := by
  rw [T_47, en_ob]
  rfl
theorem en_48 {ad : Int → Nat} {cy : Nat → ClassId} {μ : QM} : q_ent ad cy μ 48 (q_T 48) = (.inr (4, [.ref (ad 58), .int (Int32.ofInt (μ 48 1)), .int (Int32.ofInt (μ 48 2)), .int (Int32.ofInt (μ 48 3)), .int (Int32.ofInt (μ 48 4))]) : va_E) := by
  rw [T_48, en_ob]
  rfl
theorem en_49 {ad : Int → Nat} {cy : Nat → ClassId} {μ : QM} : q_ent ad cy μ 49 (q_T 49) = (.inr (4, [.ref (ad 59), .int (Int32.ofInt (μ 49 1)), .int (Int32.ofInt (μ 49 2)), .int (Int32.ofInt (μ 49 3)), .int (Int32.ofInt (μ 49 4))]) : va_E) := by
  rw [T_49, en_ob]
  rfl
theorem en_50 {ad : Int → Nat} {cy : Nat → ClassId} {μ : QM} : q_ent ad cy μ 50 (q_T 50) = (.inr (4, [.ref (ad 60), .int (Int32.ofInt (μ 50 1)), .int (Int32.ofInt (μ 50 2)), .int (Int32.ofInt (μ 50 3)), .int (Int32.ofInt (μ 50 4))]) : va_E) := by
  rw [T_50, en_ob]
  rfl
theorem en_51 {ad : Int → Nat} {cy : Nat → ClassId} {μ : QM} : q_ent ad cy μ 51 (q_T 51) = (.inr (4, [.ref (ad 61), .int (Int32.ofInt (μ 51 1)), .int (Int32.ofInt (μ 51 2)), .int (Int32.ofInt (μ 51 3)), .int (Int32.ofInt (μ 51 4))]) : va_E) := by
  rw [T_51, en_ob]
  rfl
theorem en_52 {ad : Int → Nat} {cy : Nat → ClassId} {μ : QM} : q_ent ad cy μ 52 (q_T 52) = (.inl (cy 0, 3, .inl (fun j => Int32.ofInt (μ 52 j))) : va_E) := by
  rw [T_52]
  rfl
theorem en_53 {ad : Int → Nat} {cy : Nat → ClassId} {μ : QM} : q_ent ad cy μ 53 (q_T 53) = (.inl (cy 0, 3, .inl (fun j => Int32.ofInt (μ 53 j))) : va_E) := by
  rw [T_53]
  rfl
theorem en_54 {ad : Int → Nat} {cy : Nat → ClassId} {μ : QM} : q_ent ad cy μ 54 (q_T 54) = (.inl (cy 0, 3, .inl (fun j => Int32.ofInt (μ 54 j))) : va_E) := by
  rw [T_54]
  rfl
theorem en_55 {ad : Int → Nat} {cy : Nat → ClassId} {μ : QM} : q_ent ad cy μ 55 (q_T 55) = (.inl (cy 0, 3, .inl (fun j => Int32.ofInt (μ 55 j))) : va_E) := by
  rw [T_55]
  rfl
theorem en_56 {ad : Int → Nat} {cy : Nat → ClassId} {μ : QM} : q_ent ad cy μ 56 (q_T 56) = (.inl (cy 0, 3, .inl (fun j => Int32.ofInt (μ 56 j))) : va_E) := by
  rw [T_56]
  rfl
theorem en_57 {ad : Int → Nat} {cy : Nat → ClassId} {μ : QM} : q_ent ad cy μ 57 (q_T 57) = (.inl (cy 0, 3, .inl (fun j => Int32.ofInt (μ 57 j))) : va_E) := by
  rw [T_57]
  rfl
theorem en_58 {ad : Int → Nat} {cy : Nat → ClassId} {μ : QM} : q_ent ad cy μ 58 (q_T 58) = (.inl (cy 0, 3, .inl (fun j => Int32.ofInt (μ 58 j))) : va_E) := by
  rw [T_58]
  rfl
theorem en_59 {ad : Int → Nat} {cy : Nat → ClassId} {μ : QM} : q_ent ad cy μ 59 (q_T 59) = (.inl (cy 0, 3, .inl (fun j => Int32.ofInt (μ 59 j))) : va_E) := by
  rw [T_59]
  rfl
theorem en_60 {ad : Int → Nat} {cy : Nat → ClassId} {μ : QM} : q_ent ad cy μ 60 (q_T 60) = (.inl (cy 0, 3, .inl (fun j => Int32.ofInt (μ 60 j))) : va_E) := by
  rw [T_60]
  rfl
theorem en_61 {ad : Int → Nat} {cy : Nat → ClassId} {μ : QM} : q_ent ad cy μ 61 (q_T 61) = (.inl (cy 0, 3, .inl (fun j => Int32.ofInt (μ 61 j))) : va_E) := by
  rw [T_61]
  rfl
theorem en_62 {ad : Int → Nat} {cy : Nat → ClassId} {μ : QM} : q_ent ad cy μ 62 (q_T 62) = (.inr (2, [.ref (ad 63), .ref (ad 64), .int (Int32.ofInt (μ 62 2))]) : va_E) := by
  rw [T_62, en_ob]
  rfl
theorem en_63 {ad : Int → Nat} {cy : Nat → ClassId} {μ : QM} : q_ent ad cy μ 63 (q_T 63) = (.inl (cy 4, 10, .inr (.inr (.inr (.inr (fun j => q_rf ad (65 + (j : Int))))))) : va_E) := by
  rw [T_63]
  rfl
theorem en_64 {ad : Int → Nat} {cy : Nat → ClassId} {μ : QM} : q_ent ad cy μ 64 (q_T 64) = (.inl (cy 0, 26, .inl (fun j => Int32.ofInt (μ 64 j))) : va_E) := by
  rw [T_64]
  rfl
theorem en_65 {ad : Int → Nat} {cy : Nat → ClassId} {μ : QM} : q_ent ad cy μ 65 (q_T 65) = (.inr (4, [.ref (ad 75), .int (Int32.ofInt (μ 65 1)), .int (Int32.ofInt (μ 65 2)), .int (Int32.ofInt (μ 65 3)), .int (Int32.ofInt (μ 65 4))]) : va_E) := by
  rw [T_65, en_ob]
  rfl
theorem en_66 {ad : Int → Nat} {cy : Nat → ClassId} {μ : QM} : q_ent ad cy μ 66 (q_T 66) = (.inr (4, [.ref (ad 76), .int (Int32.ofInt (μ 66 1)), .int (Int32.ofInt (μ 66 2)), .int (Int32.ofInt (μ 66 3)), .int (Int32.ofInt (μ 66 4))]) : va_E) := by
  rw [T_66, en_ob]
  rfl
theorem en_67 {ad : Int → Nat} {cy : Nat → ClassId} {μ : QM} : q_ent ad cy μ 67 (q_T 67) = (.inr (4, [.ref (ad 77), .int (Int32.ofInt (μ 67 1)), .int (Int32.ofInt (μ 67 2)), .int (Int32.ofInt (μ 67 3)), .int (Int32.ofInt (μ 67 4))]) : va_E) := by
  rw [T_67, en_ob]
  rfl
theorem en_68 {ad : Int → Nat} {cy : Nat → ClassId} {μ : QM} : q_ent ad cy μ 68 (q_T 68) = (.inr (4, [.ref (ad 78), .int (Int32.ofInt (μ 68 1)), .int (Int32.ofInt (μ 68 2)), .int (Int32.ofInt (μ 68 3)), .int (Int32.ofInt (μ 68 4))]) : va_E) := by
  rw [T_68, en_ob]
  rfl
theorem en_69 {ad : Int → Nat} {cy : Nat → ClassId} {μ : QM} : q_ent ad cy μ 69 (q_T 69) = (.inr (4, [.ref (ad 79), .int (Int32.ofInt (μ 69 1)), .int (Int32.ofInt (μ 69 2)), .int (Int32.ofInt (μ 69 3)), .int (Int32.ofInt (μ 69 4))]) : va_E) := by
  rw [T_69, en_ob]
  rfl
theorem en_70 {ad : Int → Nat} {cy : Nat → ClassId} {μ : QM} : q_ent ad cy μ 70 (q_T 70) = (.inr (4, [.ref (ad 80), .int (Int32.ofInt (μ 70 1)), .int (Int32.ofInt (μ 70 2)), .int (Int32.ofInt (μ 70 3)), .int (Int32.ofInt (μ 70 4))]) : va_E) := by
  rw [T_70, en_ob]
  rfl
theorem en_71 {ad : Int → Nat} {cy : Nat → ClassId} {μ : QM} : q_ent ad cy μ 71 (q_T 71) = (.inr (4, [.ref (ad 81), .int (Int32.ofInt (μ 71 1)), .int (Int32.ofInt (μ 71 2)), .int (Int32.ofInt (μ 71 3)), .int (Int32.ofInt (μ 71 4))]) : va_E) := by
  rw [T_71, en_ob]
  rfl
theorem en_72 {ad : Int → Nat} {cy : Nat → ClassId} {μ : QM} : q_ent ad cy μ 72 (q_T 72) = (.inr (4, [.ref (ad 82), .int (Int32.ofInt (μ 72 1)), .int (Int32.ofInt (μ 72 2)), .int (Int32.ofInt (μ 72 3)), .int (Int32.ofInt (μ 72 4))]) : va_E) := by
  rw [T_72, en_ob]
  rfl
theorem en_73 {ad : Int → Nat} {cy : Nat → ClassId} {μ : QM} : q_ent ad cy μ 73 (q_T 73) = (.inr (4, [.ref (ad 83), .int (Int32.ofInt (μ 73 1)), .int (Int32.ofInt (μ 73 2)), .int (Int32.ofInt (μ 73 3)), .int (Int32.ofInt (μ 73 4))]) : va_E) := by
  rw [T_73, en_ob]
  rfl
theorem en_74 {ad : Int → Nat} {cy : Nat → ClassId} {μ : QM} : q_ent ad cy μ 74 (q_T 74) = (.inr (4, [.ref (ad 84), .int (Int32.ofInt (μ 74 1)), .int (Int32.ofInt (μ 74 2)), .int (Int32.ofInt (μ 74 3)), .int (Int32.ofInt (μ 74 4))]) : va_E) := by
  rw [T_74, en_ob]
  rfl
theorem en_75 {ad : Int → Nat} {cy : Nat → ClassId} {μ : QM} : q_ent ad cy μ 75 (q_T 75) = (.inl (cy 0, 3, .inl (fun j => Int32.ofInt (μ 75 j))) : va_E) := by
  rw [T_75]
  rfl
theorem en_76 {ad : Int → Nat} {cy : Nat → ClassId} {μ : QM} : q_ent ad cy μ 76 (q_T 76) = (.inl (cy 0, 3, .inl (fun j => Int32.ofInt (μ 76 j))) : va_E) := by
  rw [T_76]
  rfl
theorem en_77 {ad : Int → Nat} {cy : Nat → ClassId} {μ : QM} : q_ent ad cy μ 77 (q_T 77) = (.inl (cy 0, 3, .inl (fun j => Int32.ofInt (μ 77 j))) : va_E) := by
  rw [T_77]
  rfl
theorem en_78 {ad : Int → Nat} {cy : Nat → ClassId} {μ : QM} : q_ent ad cy μ 78 (q_T 78) = (.inl (cy 0, 3, .inl (fun j => Int32.ofInt (μ 78 j))) : va_E) := by
  rw [T_78]
  rfl
theorem en_79 {ad : Int → Nat} {cy : Nat → ClassId} {μ : QM} : q_ent ad cy μ 79 (q_T 79) = (.inl (cy 0, 3, .inl (fun j => Int32.ofInt (μ 79 j))) : va_E) := by
  rw [T_79]
  rfl
theorem en_80 {ad : Int → Nat} {cy : Nat → ClassId} {μ : QM} : q_ent ad cy μ 80 (q_T 80) = (.inl (cy 0, 3, .inl (fun j => Int32.ofInt (μ 80 j))) : va_E) := by
  rw [T_80]
  rfl
theorem en_81 {ad : Int → Nat} {cy : Nat → ClassId} {μ : QM} : q_ent ad cy μ 81 (q_T 81) = (.inl (cy 0, 3, .inl (fun j => Int32.ofInt (μ 81 j))) : va_E) := by
  rw [T_81]
  rfl
theorem en_82 {ad : Int → Nat} {cy : Nat → ClassId} {μ : QM} : q_ent ad cy μ 82 (q_T 82) = (.inl (cy 0, 3, .inl (fun j => Int32.ofInt (μ 82 j))) : va_E) := by
  rw [T_82]
  rfl
theorem en_83 {ad : Int → Nat} {cy : Nat → ClassId} {μ : QM} : q_ent ad cy μ 83 (q_T 83) = (.inl (cy 0, 3, .inl (fun j => Int32.ofInt (μ 83 j))) : va_E) := by
  rw [T_83]
  rfl
theorem en_84 {ad : Int → Nat} {cy : Nat → ClassId} {μ : QM} : q_ent ad cy μ 84 (q_T 84) = (.inl (cy 0, 3, .inl (fun j => Int32.ofInt (μ 84 j))) : va_E) := by
  rw [T_84]
  rfl
theorem en_85 {ad : Int → Nat} {cy : Nat → ClassId} {μ : QM} : q_ent ad cy μ 85 (q_T 85) = (.inr (11, [.int (Int32.ofInt (μ 85 0)), .int (Int32.ofInt (μ 85 1)), .int (Int32.ofInt (μ 85 2)), .int (Int32.ofInt (μ 85 3)), .ref (ad 86), .ref (ad 87), .ref (ad 88), .int (Int32.ofInt (μ 85 7)), .ref (ad 89), .ref (ad 90), .ref (ad 91), .ref (ad 92), .ref (ad 93), .ref (ad 94), .int (Int32.ofInt (μ 85 14)), .ref (ad 95), .ref (ad 96), .int (Int32.ofInt (μ 85 17)), .long (Int64.ofInt (μ 85 18)), .long (Int64.ofInt (μ 85 19)), .long (Int64.ofInt (μ 85 20)), .ref (ad 97), .ref (ad 98), .int (Int32.ofInt (μ 85 23)), .ref (ad 99), .ref (ad 100), .ref (ad 101), .ref (ad 102), .ref (ad 103), .ref (ad 104), .ref (ad 105), .int (Int32.ofInt (μ 85 31)), .int (Int32.ofInt (μ 85 32)), .int (Int32.ofInt (μ 85 33)), .int (Int32.ofInt (μ 85 34)), .long (Int64.ofInt (μ 85 35)), .int (Int32.ofInt (μ 85 36)), .int (Int32.ofInt (μ 85 37))]) : va_E) := by
  rw [T_85, en_ob]
  rfl
theorem en_86 {ad : Int → Nat} {cy : Nat → ClassId} {μ : QM} : q_ent ad cy μ 86 (q_T 86) = (.inl (cy 0, 576, .inl (fun j => Int32.ofInt (μ 86 j))) : va_E) := by
  rw [T_86]
  rfl
theorem en_87 {ad : Int → Nat} {cy : Nat → ClassId} {μ : QM} : q_ent ad cy μ 87 (q_T 87) = (.inl (cy 0, 1728, .inl (fun j => Int32.ofInt (μ 87 j))) : va_E) := by
  rw [T_87]
  rfl
theorem en_88 {ad : Int → Nat} {cy : Nat → ClassId} {μ : QM} : q_ent ad cy μ 88 (q_T 88) = (.inl (cy 2, 3, .inl (fun j => Int32.ofInt (μ 88 j))) : va_E) := by
  rw [T_88]
  rfl
theorem en_89 {ad : Int → Nat} {cy : Nat → ClassId} {μ : QM} : q_ent ad cy μ 89 (q_T 89) = (.inl (cy 0, 10, .inl (fun j => Int32.ofInt (μ 89 j))) : va_E) := by
  rw [T_89]
  rfl
theorem en_90 {ad : Int → Nat} {cy : Nat → ClassId} {μ : QM} : q_ent ad cy μ 90 (q_T 90) = (.inl (cy 0, 10, .inl (fun j => Int32.ofInt (μ 90 j))) : va_E) := by
  rw [T_90]
  rfl
theorem en_91 {ad : Int → Nat} {cy : Nat → ClassId} {μ : QM} : q_ent ad cy μ 91 (q_T 91) = (.inl (cy 0, 10, .inl (fun j => Int32.ofInt (μ 91 j))) : va_E) := by
  rw [T_91]
  rfl
theorem en_92 {ad : Int → Nat} {cy : Nat → ClassId} {μ : QM} : q_ent ad cy μ 92 (q_T 92) = (.inl (cy 0, 30, .inl (fun j => Int32.ofInt (μ 92 j))) : va_E) := by
  rw [T_92]
  rfl
theorem en_93 {ad : Int → Nat} {cy : Nat → ClassId} {μ : QM} : q_ent ad cy μ 93 (q_T 93) = (.inl (cy 0, 10, .inl (fun j => Int32.ofInt (μ 93 j))) : va_E) := by
  rw [T_93]
  rfl
theorem en_94 {ad : Int → Nat} {cy : Nat → ClassId} {μ : QM} : q_ent ad cy μ 94 (q_T 94) = (.inl (cy 2, 90, .inl (fun j => Int32.ofInt (μ 94 j))) : va_E) := by
  rw [T_94]
  rfl
theorem en_95 {ad : Int → Nat} {cy : Nat → ClassId} {μ : QM} : q_ent ad cy μ 95 (q_T 95) = (.inl (cy 0, 100, .inl (fun j => Int32.ofInt (μ 95 j))) : va_E) := by
  rw [T_95]
  rfl
theorem en_96 {ad : Int → Nat} {cy : Nat → ClassId} {μ : QM} : q_ent ad cy μ 96 (q_T 96) = (.inl (cy 0, 1440, .inl (fun j => Int32.ofInt (μ 96 j))) : va_E) := by
  rw [T_96]
  rfl
theorem en_97 {ad : Int → Nat} {cy : Nat → ClassId} {μ : QM} : q_ent ad cy μ 97 (q_T 97) = (.inl (cy 1, 144, .inr (.inl (fun j => Int64.ofInt (μ 97 j)))) : va_E) := by
  rw [T_97]
  rfl
theorem en_98 {ad : Int → Nat} {cy : Nat → ClassId} {μ : QM} : q_ent ad cy μ 98 (q_T 98) = (.inl (cy 0, 144, .inl (fun j => Int32.ofInt (μ 98 j))) : va_E) := by
  rw [T_98]
  rfl
theorem en_99 {ad : Int → Nat} {cy : Nat → ClassId} {μ : QM} : q_ent ad cy μ 99 (q_T 99) = (.inl (cy 0, 10, .inl (fun j => Int32.ofInt (μ 99 j))) : va_E) := by
  rw [T_99]
  rfl
theorem en_100 {ad : Int → Nat} {cy : Nat → ClassId} {μ : QM} : q_ent ad cy μ 100 (q_T 100) = (.inl (cy 0, 10, .inl (fun j => Int32.ofInt (μ 100 j))) : va_E) := by
  rw [T_100]
  rfl
theorem en_101 {ad : Int → Nat} {cy : Nat → ClassId} {μ : QM} : q_ent ad cy μ 101 (q_T 101) = (.inl (cy 0, 10, .inl (fun j => Int32.ofInt (μ 101 j))) : va_E) := by
  rw [T_101]
  rfl
theorem en_102 {ad : Int → Nat} {cy : Nat → ClassId} {μ : QM} : q_ent ad cy μ 102 (q_T 102) = (.inl (cy 0, 30, .inl (fun j => Int32.ofInt (μ 102 j))) : va_E) := by
  rw [T_102]
  rfl
theorem en_103 {ad : Int → Nat} {cy : Nat → ClassId} {μ : QM} : q_ent ad cy μ 103 (q_T 103) = (.inl (cy 0, 10, .inl (fun j => Int32.ofInt (μ 103 j))) : va_E) := by
  rw [T_103]
  rfl
theorem en_104 {ad : Int → Nat} {cy : Nat → ClassId} {μ : QM} : q_ent ad cy μ 104 (q_T 104) = (.inl (cy 0, 26, .inl (fun j => Int32.ofInt (μ 104 j))) : va_E) := by
  rw [T_104]
  rfl
theorem en_105 {ad : Int → Nat} {cy : Nat → ClassId} {μ : QM} : q_ent ad cy μ 105 (q_T 105) = (.inl (cy 0, 300, .inl (fun j => Int32.ofInt (μ 105 j))) : va_E) := by
  rw [T_105]
  rfl
theorem ez_i : Int32.ofInt 0 = 0 := by decide +kernel
theorem ez_l : Int64.ofInt 0 = 0 := by decide +kernel
theorem ez_m : Int32.ofInt (-1) = -1 := by decide +kernel
theorem ez_8 : Int32.ofInt 8 = 8 := by decide +kernel
end
section
/-! the small worlds of the reference's constructor -/
def cn_ax (h0 : Nat) (L : List Nat) : Int → Nat := fun a => if a = 85 then h0 else L.getD (a - 86).toNat 0
theorem cx_85 {h0 : Nat} {L : List Nat} : cn_ax h0 L 85 = h0 := rfl
theorem cx_86 {h0 q0 q1 q2 q3 q4 q5 q6 q7 q8 q9 q10 q11 q12 q13 q14 q15 q16 q17 q18 q19 : Nat} : cn_ax h0 [q0, q1, q2, q3, q4, q5, q6, q7, q8, q9, q10, q11, q12, q13, q14, q15, q16, q17, q18, q19] 86 = q0 := rfl
theorem cx_87 {h0 q0 q1 q2 q3 q4 q5 q6 q7 q8 q9 q10 q11 q12 q13 q14 q15 q16 q17 q18 q19 : Nat} : cn_ax h0 [q0, q1, q2, q3, q4, q5, q6, q7, q8, q9, q10, q11, q12, q13, q14, q15, q16, q17, q18, q19] 87 = q1 := rfl
theorem cx_88 {h0 q0 q1 q2 q3 q4 q5 q6 q7 q8 q9 q10 q11 q12 q13 q14 q15 q16 q17 q18 q19 : Nat} : cn_ax h0 [q0, q1, q2, q3, q4, q5, q6, q7, q8, q9, q10, q11, q12, q13, q14, q15, q16, q17, q18, q19] 88 = q2 := rfl
theorem cx_89 {h0 q0 q1 q2 q3 q4 q5 q6 q7 q8 q9 q10 q11 q12 q13 q14 q15 q16 q17 q18 q19 : Nat} : cn_ax h0 [q0, q1, q2, q3, q4, q5, q6, q7, q8, q9, q10, q11, q12, q13, q14, q15, q16, q17, q18, q19] 89 = q3 := rfl
theorem cx_90 {h0 q0 q1 q2 q3 q4 q5 q6 q7 q8 q9 q10 q11 q12 q13 q14 q15 q16 q17 q18 q19 : Nat} : cn_ax h0 [q0, q1, q2, q3, q4, q5, q6, q7, q8, q9, q10, q11, q12, q13, q14, q15, q16, q17, q18, q19] 90 = q4 := rfl
theorem cx_91 {h0 q0 q1 q2 q3 q4 q5 q6 q7 q8 q9 q10 q11 q12 q13 q14 q15 q16 q17 q18 q19 : Nat} : cn_ax h0 [q0, q1, q2, q3, q4, q5, q6, q7, q8, q9, q10, q11, q12, q13, q14, q15, q16, q17, q18, q19] 91 = q5 := rfl
theorem cx_92 {h0 q0 q1 q2 q3 q4 q5 q6 q7 q8 q9 q10 q11 q12 q13 q14 q15 q16 q17 q18 q19 : Nat} : cn_ax h0 [q0, q1, q2, q3, q4, q5, q6, q7, q8, q9, q10, q11, q12, q13, q14, q15, q16, q17, q18, q19] 92 = q6 := rfl
theorem cx_93 {h0 q0 q1 q2 q3 q4 q5 q6 q7 q8 q9 q10 q11 q12 q13 q14 q15 q16 q17 q18 q19 : Nat} : cn_ax h0 [q0, q1, q2, q3, q4, q5, q6, q7, q8, q9, q10, q11, q12, q13, q14, q15, q16, q17, q18, q19] 93 = q7 := rfl
theorem cx_94 {h0 q0 q1 q2 q3 q4 q5 q6 q7 q8 q9 q10 q11 q12 q13 q14 q15 q16 q17 q18 q19 : Nat} : cn_ax h0 [q0, q1, q2, q3, q4, q5, q6, q7, q8, q9, q10, q11, q12, q13, q14, q15, q16, q17, q18, q19] 94 = q8 := rfl
theorem cx_95 {h0 q0 q1 q2 q3 q4 q5 q6 q7 q8 q9 q10 q11 q12 q13 q14 q15 q16 q17 q18 q19 : Nat} : cn_ax h0 [q0, q1, q2, q3, q4, q5, q6, q7, q8, q9, q10, q11, q12, q13, q14, q15, q16, q17, q18, q19] 95 = q9 := rfl
theorem cx_96 {h0 q0 q1 q2 q3 q4 q5 q6 q7 q8 q9 q10 q11 q12 q13 q14 q15 q16 q17 q18 q19 : Nat} : cn_ax h0 [q0, q1, q2, q3, q4, q5, q6, q7, q8, q9, q10, q11, q12, q13, q14, q15, q16, q17, q18, q19] 96 = q10 := rfl
theorem cx_97 {h0 q0 q1 q2 q3 q4 q5 q6 q7 q8 q9 q10 q11 q12 q13 q14 q15 q16 q17 q18 q19 : Nat} : cn_ax h0 [q0, q1, q2, q3, q4, q5, q6, q7, q8, q9, q10, q11, q12, q13, q14, q15, q16, q17, q18, q19] 97 = q11 := rfl
theorem cx_98 {h0 q0 q1 q2 q3 q4 q5 q6 q7 q8 q9 q10 q11 q12 q13 q14 q15 q16 q17 q18 q19 : Nat} : cn_ax h0 [q0, q1, q2, q3, q4, q5, q6, q7, q8, q9, q10, q11, q12, q13, q14, q15, q16, q17, q18, q19] 98 = q12 := rfl
theorem cx_99 {h0 q0 q1 q2 q3 q4 q5 q6 q7 q8 q9 q10 q11 q12 q13 q14 q15 q16 q17 q18 q19 : Nat} : cn_ax h0 [q0, q1, q2, q3, q4, q5, q6, q7, q8, q9, q10, q11, q12, q13, q14, q15, q16, q17, q18, q19] 99 = q13 := rfl
theorem cx_100 {h0 q0 q1 q2 q3 q4 q5 q6 q7 q8 q9 q10 q11 q12 q13 q14 q15 q16 q17 q18 q19 : Nat} : cn_ax h0 [q0, q1, q2, q3, q4, q5, q6, q7, q8, q9, q10, q11, q12, q13, q14, q15, q16, q17, q18, q19] 100 = q14 := rfl
theorem cx_101 {h0 q0 q1 q2 q3 q4 q5 q6 q7 q8 q9 q10 q11 q12 q13 q14 q15 q16 q17 q18 q19 : Nat} : cn_ax h0 [q0, q1, q2, q3, q4, q5, q6, q7, q8, q9, q10, q11, q12, q13, q14, q15, q16, q17, q18, q19] 101 = q15 := rfl
theorem cx_102 {h0 q0 q1 q2 q3 q4 q5 q6 q7 q8 q9 q10 q11 q12 q13 q14 q15 q16 q17 q18 q19 : Nat} : cn_ax h0 [q0, q1, q2, q3, q4, q5, q6, q7, q8, q9, q10, q11, q12, q13, q14, q15, q16, q17, q18, q19] 102 = q16 := rfl
theorem cx_103 {h0 q0 q1 q2 q3 q4 q5 q6 q7 q8 q9 q10 q11 q12 q13 q14 q15 q16 q17 q18 q19 : Nat} : cn_ax h0 [q0, q1, q2, q3, q4, q5, q6, q7, q8, q9, q10, q11, q12, q13, q14, q15, q16, q17, q18, q19] 103 = q17 := rfl
theorem cx_104 {h0 q0 q1 q2 q3 q4 q5 q6 q7 q8 q9 q10 q11 q12 q13 q14 q15 q16 q17 q18 q19 : Nat} : cn_ax h0 [q0, q1, q2, q3, q4, q5, q6, q7, q8, q9, q10, q11, q12, q13, q14, q15, q16, q17, q18, q19] 104 = q18 := rfl
theorem cx_105 {h0 q0 q1 q2 q3 q4 q5 q6 q7 q8 q9 q10 q11 q12 q13 q14 q15 q16 q17 q18 q19 : Nat} : cn_ax h0 [q0, q1, q2, q3, q4, q5, q6, q7, q8, q9, q10, q11, q12, q13, q14, q15, q16, q17, q18, q19] 105 = q19 := rfl
theorem kn_0 : k_N 85 0 = 0 := by decide +kernel
theorem kn_1 : k_N 85 1 = 0 := by decide +kernel
theorem kn_2 : k_N 85 2 = 8 := by decide +kernel
theorem kn_3 : k_N 85 3 = 8 := by decide +kernel
theorem kn_4 : k_N 85 4 = 0 := by decide +kernel
theorem kn_5 : k_N 85 5 = 0 := by decide +kernel
theorem kn_6 : k_N 85 6 = 0 := by decide +kernel
theorem kn_7 : k_N 85 7 = 0 := by decide +kernel
theorem kn_8 : k_N 85 8 = 0 := by decide +kernel
theorem kn_9 : k_N 85 9 = 0 := by decide +kernel
theorem kn_10 : k_N 85 10 = 0 := by decide +kernel
theorem kn_11 : k_N 85 11 = 0 := by decide +kernel
theorem kn_12 : k_N 85 12 = 0 := by decide +kernel
theorem kn_13 : k_N 85 13 = 0 := by decide +kernel
theorem kn_14 : k_N 85 14 = 0 := by decide +kernel
theorem kn_15 : k_N 85 15 = 0 := by decide +kernel
theorem kn_16 : k_N 85 16 = 0 := by decide +kernel
theorem kn_17 : k_N 85 17 = 0 := by decide +kernel
theorem kn_18 : k_N 85 18 = 0 := by decide +kernel
theorem kn_19 : k_N 85 19 = 0 := by decide +kernel
theorem kn_20 : k_N 85 20 = 0 := by decide +kernel
theorem kn_21 : k_N 85 21 = 0 := by decide +kernel
theorem kn_22 : k_N 85 22 = 0 := by decide +kernel
theorem kn_23 : k_N 85 23 = 0 := by decide +kernel
theorem kn_24 : k_N 85 24 = 0 := by decide +kernel
theorem kn_25 : k_N 85 25 = 0 := by decide +kernel
theorem kn_26 : k_N 85 26 = 0 := by decide +kernel
theorem kn_27 : k_N 85 27 = 0 := by decide +kernel
theorem kn_28 : k_N 85 28 = 0 := by decide +kernel
theorem kn_29 : k_N 85 29 = 0 := by decide +kernel
theorem kn_30 : k_N 85 30 = 0 := by decide +kernel
theorem kn_31 : k_N 85 31 = 0 := by decide +kernel
theorem kn_32 : k_N 85 32 = 0 := by decide +kernel
theorem kn_33 : k_N 85 33 = 0 := by decide +kernel
theorem kn_34 : k_N 85 34 = 0 := by decide +kernel
theorem kn_35 : k_N 85 35 = 0 := by decide +kernel
theorem kn_36 : k_N 85 36 = -1 := by decide +kernel
theorem kn_37 : k_N 85 37 = 0 := by decide +kernel
theorem knz_86 (j : Int) : k_N 86 j = 0 := by
  unfold k_N
  rw [if_neg (by decide), if_neg (by decide)]
theorem knz_88 (j : Int) : k_N 88 j = 0 := by
  unfold k_N
  rw [if_neg (by decide), if_neg (by decide)]
theorem knz_94 (j : Int) : k_N 94 j = 0 := by
  unfold k_N
  rw [if_neg (by decide), if_neg (by decide)]
theorem km_18 : k_M 85 18 = 0 := by decide +kernel
theorem km_19 : k_M 85 19 = 0 := by decide +kernel
theorem km_20 : k_M 85 20 = 0 := by decide +kernel
theorem km_35 : k_M 85 35 = 0 := by decide +kernel
theorem km_37 : k_M 85 37 = 0 := by decide +kernel
set_option maxHeartbeats 400000 in
theorem wx_N {h0 q0 q1 q2 q3 q4 q5 q6 q7 q8 q9 q10 q11 q12 q13 q14 q15 q16 q17 q18 q19 : Nat} {cy : Nat → ClassId} : q_ws (q_Tm [85, 86, 88, 94]) [85, 86, 88, 94] (cn_ax h0 [q0, q1, q2, q3, q4, q5, q6, q7, q8, q9, q10, q11, q12, q13, q14, q15, q16, q17, q18, q19]) cy k_N = ([(h0, .inr (11, [.int 0, .int 0, .int 8, .int 8, .ref q0, .ref q1, .ref q2, .int 0, .ref q3, .ref q4, .ref q5, .ref q6, .ref q7, .ref q8, .int 0, .ref q9, .ref q10, .int 0, .long 0, .long 0, .long 0, .ref q11, .ref q12, .int 0, .ref q13, .ref q14, .ref q15, .ref q16, .ref q17, .ref q18, .ref q19, .int 0, .int 0, .int 0, .int 0, .long 0, .int (-1), .int 0])), (q0, .inl (cy 0, 576, .inl (fun _ => 0))), (q2, .inl (cy 2, 3, .inl (fun _ => 0))), (q8, .inl (cy 2, 90, .inl (fun _ => 0)))] : va_W) := by
  rw [q_wsM]
  unfold q_ws
  simp only [List.map_cons, List.map_nil, en_85, en_86, en_88, en_94, cx_85, cx_86, cx_87, cx_88, cx_89, cx_90, cx_91, cx_92, cx_93, cx_94, cx_95, cx_96, cx_97, cx_98, cx_99, cx_100, cx_101, cx_102, cx_103, cx_104, cx_105, kn_0, kn_1, kn_2, kn_3, kn_4, kn_5, kn_6, kn_7, kn_8, kn_9, kn_10, kn_11, kn_12, kn_13, kn_14, kn_15, kn_16, kn_17, kn_18, kn_19, kn_20, kn_21, kn_22, kn_23, kn_24, kn_25, kn_26, kn_27, kn_28, kn_29, kn_30, kn_31, kn_32, kn_33, kn_34, kn_35, kn_36, kn_37, knz_86, knz_88, knz_94, ez_i, ez_l, ez_m, ez_8]
set_option maxHeartbeats 400000 in
theorem wx_M {h0 q0 q1 q2 q3 q4 q5 q6 q7 q8 q9 q10 q11 q12 q13 q14 q15 q16 q17 q18 q19 : Nat} {cy : Nat → ClassId} : q_ws (q_Tm [85, 86, 88, 94]) [85, 86, 88, 94] (cn_ax h0 [q0, q1, q2, q3, q4, q5, q6, q7, q8, q9, q10, q11, q12, q13, q14, q15, q16, q17, q18, q19]) cy k_M = ([(h0, .inr (11, [.int (Int32.ofInt (k_M 85 0)), .int (Int32.ofInt (k_M 85 1)), .int (Int32.ofInt (k_M 85 2)), .int (Int32.ofInt (k_M 85 3)), .ref q0, .ref q1, .ref q2, .int (Int32.ofInt (k_M 85 7)), .ref q3, .ref q4, .ref q5, .ref q6, .ref q7, .ref q8, .int (Int32.ofInt (k_M 85 14)), .ref q9, .ref q10, .int (Int32.ofInt (k_M 85 17)), .long 0, .long 0, .long 0, .ref q11, .ref q12, .int (Int32.ofInt (k_M 85 23)), .ref q13, .ref q14, .ref q15, .ref q16, .ref q17, .ref q18, .ref q19, .int (Int32.ofInt (k_M 85 31)), .int (Int32.ofInt (k_M 85 32)), .int (Int32.ofInt (k_M 85 33)), .int (Int32.ofInt (k_M 85 34)), .long 0, .int (Int32.ofInt (k_M 85 36)), .int 0])), (q0, .inl (cy 0, 576, .inl (fun j => Int32.ofInt (k_M 86 j)))), (q2, .inl (cy 2, 3, .inl (fun j => Int32.ofInt (k_M 88 j)))), (q8, .inl (cy 2, 90, .inl (fun j => Int32.ofInt (k_M 94 j))))] : va_W) := by
  rw [q_wsM]
  unfold q_ws
  simp only [List.map_cons, List.map_nil, en_85, en_86, en_88, en_94, cx_85, cx_86, cx_87, cx_88, cx_89, cx_90, cx_91, cx_92, cx_93, cx_94, cx_95, cx_96, cx_97, cx_98, cx_99, cx_100, cx_101, cx_102, cx_103, cx_104, cx_105, km_18, km_19, km_20, km_35, km_37, ez_i, ez_l]
theorem cx_T : q_Tm [85, 86, 88, 94] 85 = some (.inl (11, [.inl 0, .inl 0, .inl 0, .inl 0, .inr 86, .inr 87, .inr 88, .inl 0, .inr 89, .inr 90, .inr 91, .inr 92, .inr 93, .inr 94, .inl 0, .inr 95, .inr 96, .inl 0, .inl 1, .inl 1, .inl 1, .inr 97, .inr 98, .inl 0, .inr 99, .inr 100, .inr 101, .inr 102, .inr 103, .inr 104, .inr 105, .inl 0, .inl 0, .inl 0, .inl 0, .inl 1, .inl 0, .inl 2])) := by
  unfold q_Tm
  rw [if_pos (by decide), T_85]
theorem cx_Ta (a : Int) (q : a = 85 ∨ a = 86 ∨ a = 88 ∨ a = 94) : q_Tm [85, 86, 88, 94] a = q_T a := by
  unfold q_Tm
  rw [if_pos (by rcases q with rfl | rfl | rfl | rfl <;> decide)]
end
section
/-! the world at the law's loop: where it lies, what it holds -/
theorem la_0 {x y : Nat} {a : Nat → Nat} {f : Nat → Nat → Nat} {g tk tv : Nat → Nat} {tf : Nat} : l_ad x y a f g tk tv tf 0 = x := rfl
theorem la_1 {x y : Nat} {a : Nat → Nat} {f : Nat → Nat → Nat} {g tk tv : Nat → Nat} {tf : Nat} : l_ad x y a f g tk tv tf 1 = (a 0) := rfl
theorem la_2 {x y : Nat} {a : Nat → Nat} {f : Nat → Nat → Nat} {g tk tv : Nat → Nat} {tf : Nat} : l_ad x y a f g tk tv tf 2 = (a 1) := rfl
theorem la_3 {x y : Nat} {a : Nat → Nat} {f : Nat → Nat → Nat} {g tk tv : Nat → Nat} {tf : Nat} : l_ad x y a f g tk tv tf 3 = (f 1 0) := rfl
theorem la_4 {x y : Nat} {a : Nat → Nat} {f : Nat → Nat → Nat} {g tk tv : Nat → Nat} {tf : Nat} : l_ad x y a f g tk tv tf 4 = (f 1 1) := rfl
theorem la_5 {x y : Nat} {a : Nat → Nat} {f : Nat → Nat → Nat} {g tk tv : Nat → Nat} {tf : Nat} : l_ad x y a f g tk tv tf 5 = (f 1 2) := rfl
theorem la_6 {x y : Nat} {a : Nat → Nat} {f : Nat → Nat → Nat} {g tk tv : Nat → Nat} {tf : Nat} : l_ad x y a f g tk tv tf 6 = (f 1 3) := rfl
theorem la_7 {x y : Nat} {a : Nat → Nat} {f : Nat → Nat → Nat} {g tk tv : Nat → Nat} {tf : Nat} : l_ad x y a f g tk tv tf 7 = (f 1 4) := rfl
theorem la_8 {x y : Nat} {a : Nat → Nat} {f : Nat → Nat → Nat} {g tk tv : Nat → Nat} {tf : Nat} : l_ad x y a f g tk tv tf 8 = (f 1 5) := rfl
theorem la_9 {x y : Nat} {a : Nat → Nat} {f : Nat → Nat → Nat} {g tk tv : Nat → Nat} {tf : Nat} : l_ad x y a f g tk tv tf 9 = (f 1 6) := rfl
theorem la_10 {x y : Nat} {a : Nat → Nat} {f : Nat → Nat → Nat} {g tk tv : Nat → Nat} {tf : Nat} : l_ad x y a f g tk tv tf 10 = (f 1 7) := rfl
theorem la_11 {x y : Nat} {a : Nat → Nat} {f : Nat → Nat → Nat} {g tk tv : Nat → Nat} {tf : Nat} : l_ad x y a f g tk tv tf 11 = (f 1 8) := rfl
theorem la_12 {x y : Nat} {a : Nat → Nat} {f : Nat → Nat → Nat} {g tk tv : Nat → Nat} {tf : Nat} : l_ad x y a f g tk tv tf 12 = (f 1 9) := rfl
theorem la_13 {x y : Nat} {a : Nat → Nat} {f : Nat → Nat → Nat} {g tk tv : Nat → Nat} {tf : Nat} : l_ad x y a f g tk tv tf 13 = (a 2) := rfl
theorem la_14 {x y : Nat} {a : Nat → Nat} {f : Nat → Nat → Nat} {g tk tv : Nat → Nat} {tf : Nat} : l_ad x y a f g tk tv tf 14 = (f 2 0) := rfl
theorem la_15 {x y : Nat} {a : Nat → Nat} {f : Nat → Nat → Nat} {g tk tv : Nat → Nat} {tf : Nat} : l_ad x y a f g tk tv tf 15 = (a 5) := rfl
theorem la_16 {x y : Nat} {a : Nat → Nat} {f : Nat → Nat → Nat} {g tk tv : Nat → Nat} {tf : Nat} : l_ad x y a f g tk tv tf 16 = (f 5 0) := rfl
theorem la_17 {x y : Nat} {a : Nat → Nat} {f : Nat → Nat → Nat} {g tk tv : Nat → Nat} {tf : Nat} : l_ad x y a f g tk tv tf 17 = (f 5 1) := rfl
theorem la_18 {x y : Nat} {a : Nat → Nat} {f : Nat → Nat → Nat} {g tk tv : Nat → Nat} {tf : Nat} : l_ad x y a f g tk tv tf 18 = (f 5 2) := rfl
theorem la_19 {x y : Nat} {a : Nat → Nat} {f : Nat → Nat → Nat} {g tk tv : Nat → Nat} {tf : Nat} : l_ad x y a f g tk tv tf 19 = (f 5 3) := rfl
theorem la_20 {x y : Nat} {a : Nat → Nat} {f : Nat → Nat → Nat} {g tk tv : Nat → Nat} {tf : Nat} : l_ad x y a f g tk tv tf 20 = (a 6) := rfl
theorem la_21 {x y : Nat} {a : Nat → Nat} {f : Nat → Nat → Nat} {g tk tv : Nat → Nat} {tf : Nat} : l_ad x y a f g tk tv tf 21 = (f 6 0) := rfl
theorem la_22 {x y : Nat} {a : Nat → Nat} {f : Nat → Nat → Nat} {g tk tv : Nat → Nat} {tf : Nat} : l_ad x y a f g tk tv tf 22 = (f 6 1) := rfl
theorem la_23 {x y : Nat} {a : Nat → Nat} {f : Nat → Nat → Nat} {g tk tv : Nat → Nat} {tf : Nat} : l_ad x y a f g tk tv tf 23 = (f 6 2) := rfl
theorem la_24 {x y : Nat} {a : Nat → Nat} {f : Nat → Nat → Nat} {g tk tv : Nat → Nat} {tf : Nat} : l_ad x y a f g tk tv tf 24 = (f 6 3) := rfl
theorem la_25 {x y : Nat} {a : Nat → Nat} {f : Nat → Nat → Nat} {g tk tv : Nat → Nat} {tf : Nat} : l_ad x y a f g tk tv tf 25 = (f 6 4) := rfl
theorem la_26 {x y : Nat} {a : Nat → Nat} {f : Nat → Nat → Nat} {g tk tv : Nat → Nat} {tf : Nat} : l_ad x y a f g tk tv tf 26 = (f 6 5) := rfl
theorem la_27 {x y : Nat} {a : Nat → Nat} {f : Nat → Nat → Nat} {g tk tv : Nat → Nat} {tf : Nat} : l_ad x y a f g tk tv tf 27 = (f 6 6) := rfl
theorem la_28 {x y : Nat} {a : Nat → Nat} {f : Nat → Nat → Nat} {g tk tv : Nat → Nat} {tf : Nat} : l_ad x y a f g tk tv tf 28 = (f 6 7) := rfl
theorem la_29 {x y : Nat} {a : Nat → Nat} {f : Nat → Nat → Nat} {g tk tv : Nat → Nat} {tf : Nat} : l_ad x y a f g tk tv tf 29 = (f 6 8) := rfl
theorem la_30 {x y : Nat} {a : Nat → Nat} {f : Nat → Nat → Nat} {g tk tv : Nat → Nat} {tf : Nat} : l_ad x y a f g tk tv tf 30 = (f 6 9) := rfl
theorem la_31 {x y : Nat} {a : Nat → Nat} {f : Nat → Nat → Nat} {g tk tv : Nat → Nat} {tf : Nat} : l_ad x y a f g tk tv tf 31 = (f 6 10) := rfl
theorem la_32 {x y : Nat} {a : Nat → Nat} {f : Nat → Nat → Nat} {g tk tv : Nat → Nat} {tf : Nat} : l_ad x y a f g tk tv tf 32 = (f 6 11) := rfl
theorem la_33 {x y : Nat} {a : Nat → Nat} {f : Nat → Nat → Nat} {g tk tv : Nat → Nat} {tf : Nat} : l_ad x y a f g tk tv tf 33 = (f 6 12) := rfl
theorem la_34 {x y : Nat} {a : Nat → Nat} {f : Nat → Nat → Nat} {g tk tv : Nat → Nat} {tf : Nat} : l_ad x y a f g tk tv tf 34 = (f 6 13) := rfl
theorem la_35 {x y : Nat} {a : Nat → Nat} {f : Nat → Nat → Nat} {g tk tv : Nat → Nat} {tf : Nat} : l_ad x y a f g tk tv tf 35 = (f 6 14) := rfl
theorem la_36 {x y : Nat} {a : Nat → Nat} {f : Nat → Nat → Nat} {g tk tv : Nat → Nat} {tf : Nat} : l_ad x y a f g tk tv tf 36 = (f 6 15) := rfl
theorem la_37 {x y : Nat} {a : Nat → Nat} {f : Nat → Nat → Nat} {g tk tv : Nat → Nat} {tf : Nat} : l_ad x y a f g tk tv tf 37 = (f 6 16) := rfl
theorem la_38 {x y : Nat} {a : Nat → Nat} {f : Nat → Nat → Nat} {g tk tv : Nat → Nat} {tf : Nat} : l_ad x y a f g tk tv tf 38 = (f 6 17) := rfl
theorem la_39 {x y : Nat} {a : Nat → Nat} {f : Nat → Nat → Nat} {g tk tv : Nat → Nat} {tf : Nat} : l_ad x y a f g tk tv tf 39 = (a 3) := rfl
theorem la_40 {x y : Nat} {a : Nat → Nat} {f : Nat → Nat → Nat} {g tk tv : Nat → Nat} {tf : Nat} : l_ad x y a f g tk tv tf 40 = (f 3 0) := rfl
theorem la_41 {x y : Nat} {a : Nat → Nat} {f : Nat → Nat → Nat} {g tk tv : Nat → Nat} {tf : Nat} : l_ad x y a f g tk tv tf 41 = (f 3 1) := rfl
theorem la_42 {x y : Nat} {a : Nat → Nat} {f : Nat → Nat → Nat} {g tk tv : Nat → Nat} {tf : Nat} : l_ad x y a f g tk tv tf 42 = (f 3 2) := rfl
theorem la_43 {x y : Nat} {a : Nat → Nat} {f : Nat → Nat → Nat} {g tk tv : Nat → Nat} {tf : Nat} : l_ad x y a f g tk tv tf 43 = (f 3 4) := rfl
theorem la_44 {x y : Nat} {a : Nat → Nat} {f : Nat → Nat → Nat} {g tk tv : Nat → Nat} {tf : Nat} : l_ad x y a f g tk tv tf 44 = (f 3 6) := rfl
theorem la_45 {x y : Nat} {a : Nat → Nat} {f : Nat → Nat → Nat} {g tk tv : Nat → Nat} {tf : Nat} : l_ad x y a f g tk tv tf 45 = (f 3 8) := rfl
theorem la_46 {x y : Nat} {a : Nat → Nat} {f : Nat → Nat → Nat} {g tk tv : Nat → Nat} {tf : Nat} : l_ad x y a f g tk tv tf 46 = (f 3 10) := rfl
theorem la_47 {x y : Nat} {a : Nat → Nat} {f : Nat → Nat → Nat} {g tk tv : Nat → Nat} {tf : Nat} : l_ad x y a f g tk tv tf 47 = (f 3 12) := rfl
theorem la_48 {x y : Nat} {a : Nat → Nat} {f : Nat → Nat → Nat} {g tk tv : Nat → Nat} {tf : Nat} : l_ad x y a f g tk tv tf 48 = (f 3 14) := rfl
theorem la_49 {x y : Nat} {a : Nat → Nat} {f : Nat → Nat → Nat} {g tk tv : Nat → Nat} {tf : Nat} : l_ad x y a f g tk tv tf 49 = (f 3 16) := rfl
theorem la_50 {x y : Nat} {a : Nat → Nat} {f : Nat → Nat → Nat} {g tk tv : Nat → Nat} {tf : Nat} : l_ad x y a f g tk tv tf 50 = (f 3 18) := rfl
theorem la_51 {x y : Nat} {a : Nat → Nat} {f : Nat → Nat → Nat} {g tk tv : Nat → Nat} {tf : Nat} : l_ad x y a f g tk tv tf 51 = (f 3 20) := rfl
theorem la_52 {x y : Nat} {a : Nat → Nat} {f : Nat → Nat → Nat} {g tk tv : Nat → Nat} {tf : Nat} : l_ad x y a f g tk tv tf 52 = (f 3 3) := rfl
theorem la_53 {x y : Nat} {a : Nat → Nat} {f : Nat → Nat → Nat} {g tk tv : Nat → Nat} {tf : Nat} : l_ad x y a f g tk tv tf 53 = (f 3 5) := rfl
theorem la_54 {x y : Nat} {a : Nat → Nat} {f : Nat → Nat → Nat} {g tk tv : Nat → Nat} {tf : Nat} : l_ad x y a f g tk tv tf 54 = (f 3 7) := rfl
theorem la_55 {x y : Nat} {a : Nat → Nat} {f : Nat → Nat → Nat} {g tk tv : Nat → Nat} {tf : Nat} : l_ad x y a f g tk tv tf 55 = (f 3 9) := rfl
theorem la_56 {x y : Nat} {a : Nat → Nat} {f : Nat → Nat → Nat} {g tk tv : Nat → Nat} {tf : Nat} : l_ad x y a f g tk tv tf 56 = (f 3 11) := rfl
theorem la_57 {x y : Nat} {a : Nat → Nat} {f : Nat → Nat → Nat} {g tk tv : Nat → Nat} {tf : Nat} : l_ad x y a f g tk tv tf 57 = (f 3 13) := rfl
theorem la_58 {x y : Nat} {a : Nat → Nat} {f : Nat → Nat → Nat} {g tk tv : Nat → Nat} {tf : Nat} : l_ad x y a f g tk tv tf 58 = (f 3 15) := rfl
theorem la_59 {x y : Nat} {a : Nat → Nat} {f : Nat → Nat → Nat} {g tk tv : Nat → Nat} {tf : Nat} : l_ad x y a f g tk tv tf 59 = (f 3 17) := rfl
theorem la_60 {x y : Nat} {a : Nat → Nat} {f : Nat → Nat → Nat} {g tk tv : Nat → Nat} {tf : Nat} : l_ad x y a f g tk tv tf 60 = (f 3 19) := rfl
theorem la_61 {x y : Nat} {a : Nat → Nat} {f : Nat → Nat → Nat} {g tk tv : Nat → Nat} {tf : Nat} : l_ad x y a f g tk tv tf 61 = (f 3 21) := rfl
theorem la_62 {x y : Nat} {a : Nat → Nat} {f : Nat → Nat → Nat} {g tk tv : Nat → Nat} {tf : Nat} : l_ad x y a f g tk tv tf 62 = (a 4) := rfl
theorem la_63 {x y : Nat} {a : Nat → Nat} {f : Nat → Nat → Nat} {g tk tv : Nat → Nat} {tf : Nat} : l_ad x y a f g tk tv tf 63 = (f 4 0) := rfl
theorem la_64 {x y : Nat} {a : Nat → Nat} {f : Nat → Nat → Nat} {g tk tv : Nat → Nat} {tf : Nat} : l_ad x y a f g tk tv tf 64 = (f 4 1) := rfl
theorem la_65 {x y : Nat} {a : Nat → Nat} {f : Nat → Nat → Nat} {g tk tv : Nat → Nat} {tf : Nat} : l_ad x y a f g tk tv tf 65 = (f 4 2) := rfl
theorem la_66 {x y : Nat} {a : Nat → Nat} {f : Nat → Nat → Nat} {g tk tv : Nat → Nat} {tf : Nat} : l_ad x y a f g tk tv tf 66 = (f 4 4) := rfl
theorem la_67 {x y : Nat} {a : Nat → Nat} {f : Nat → Nat → Nat} {g tk tv : Nat → Nat} {tf : Nat} : l_ad x y a f g tk tv tf 67 = (f 4 6) := rfl
theorem la_68 {x y : Nat} {a : Nat → Nat} {f : Nat → Nat → Nat} {g tk tv : Nat → Nat} {tf : Nat} : l_ad x y a f g tk tv tf 68 = (f 4 8) := rfl
theorem la_69 {x y : Nat} {a : Nat → Nat} {f : Nat → Nat → Nat} {g tk tv : Nat → Nat} {tf : Nat} : l_ad x y a f g tk tv tf 69 = (f 4 10) := rfl
theorem la_70 {x y : Nat} {a : Nat → Nat} {f : Nat → Nat → Nat} {g tk tv : Nat → Nat} {tf : Nat} : l_ad x y a f g tk tv tf 70 = (f 4 12) := rfl
theorem la_71 {x y : Nat} {a : Nat → Nat} {f : Nat → Nat → Nat} {g tk tv : Nat → Nat} {tf : Nat} : l_ad x y a f g tk tv tf 71 = (f 4 14) := rfl
theorem la_72 {x y : Nat} {a : Nat → Nat} {f : Nat → Nat → Nat} {g tk tv : Nat → Nat} {tf : Nat} : l_ad x y a f g tk tv tf 72 = (f 4 16) := rfl
theorem la_73 {x y : Nat} {a : Nat → Nat} {f : Nat → Nat → Nat} {g tk tv : Nat → Nat} {tf : Nat} : l_ad x y a f g tk tv tf 73 = (f 4 18) := rfl
theorem la_74 {x y : Nat} {a : Nat → Nat} {f : Nat → Nat → Nat} {g tk tv : Nat → Nat} {tf : Nat} : l_ad x y a f g tk tv tf 74 = (f 4 20) := rfl
theorem la_75 {x y : Nat} {a : Nat → Nat} {f : Nat → Nat → Nat} {g tk tv : Nat → Nat} {tf : Nat} : l_ad x y a f g tk tv tf 75 = (f 4 3) := rfl
theorem la_76 {x y : Nat} {a : Nat → Nat} {f : Nat → Nat → Nat} {g tk tv : Nat → Nat} {tf : Nat} : l_ad x y a f g tk tv tf 76 = (f 4 5) := rfl
theorem la_77 {x y : Nat} {a : Nat → Nat} {f : Nat → Nat → Nat} {g tk tv : Nat → Nat} {tf : Nat} : l_ad x y a f g tk tv tf 77 = (f 4 7) := rfl
theorem la_78 {x y : Nat} {a : Nat → Nat} {f : Nat → Nat → Nat} {g tk tv : Nat → Nat} {tf : Nat} : l_ad x y a f g tk tv tf 78 = (f 4 9) := rfl
theorem la_79 {x y : Nat} {a : Nat → Nat} {f : Nat → Nat → Nat} {g tk tv : Nat → Nat} {tf : Nat} : l_ad x y a f g tk tv tf 79 = (f 4 11) := rfl
theorem la_80 {x y : Nat} {a : Nat → Nat} {f : Nat → Nat → Nat} {g tk tv : Nat → Nat} {tf : Nat} : l_ad x y a f g tk tv tf 80 = (f 4 13) := rfl
theorem la_81 {x y : Nat} {a : Nat → Nat} {f : Nat → Nat → Nat} {g tk tv : Nat → Nat} {tf : Nat} : l_ad x y a f g tk tv tf 81 = (f 4 15) := rfl
theorem la_82 {x y : Nat} {a : Nat → Nat} {f : Nat → Nat → Nat} {g tk tv : Nat → Nat} {tf : Nat} : l_ad x y a f g tk tv tf 82 = (f 4 17) := rfl
theorem la_83 {x y : Nat} {a : Nat → Nat} {f : Nat → Nat → Nat} {g tk tv : Nat → Nat} {tf : Nat} : l_ad x y a f g tk tv tf 83 = (f 4 19) := rfl
theorem la_84 {x y : Nat} {a : Nat → Nat} {f : Nat → Nat → Nat} {g tk tv : Nat → Nat} {tf : Nat} : l_ad x y a f g tk tv tf 84 = (f 4 21) := rfl
theorem la_85 {x y : Nat} {a : Nat → Nat} {f : Nat → Nat → Nat} {g tk tv : Nat → Nat} {tf : Nat} : l_ad x y a f g tk tv tf 85 = y := rfl
theorem la_86 {x y : Nat} {a : Nat → Nat} {f : Nat → Nat → Nat} {g tk tv : Nat → Nat} {tf : Nat} : l_ad x y a f g tk tv tf 86 = (g 0) := rfl
theorem la_87 {x y : Nat} {a : Nat → Nat} {f : Nat → Nat → Nat} {g tk tv : Nat → Nat} {tf : Nat} : l_ad x y a f g tk tv tf 87 = (g 1) := rfl
theorem la_88 {x y : Nat} {a : Nat → Nat} {f : Nat → Nat → Nat} {g tk tv : Nat → Nat} {tf : Nat} : l_ad x y a f g tk tv tf 88 = (g 2) := rfl
theorem la_89 {x y : Nat} {a : Nat → Nat} {f : Nat → Nat → Nat} {g tk tv : Nat → Nat} {tf : Nat} : l_ad x y a f g tk tv tf 89 = (g 3) := rfl
theorem la_90 {x y : Nat} {a : Nat → Nat} {f : Nat → Nat → Nat} {g tk tv : Nat → Nat} {tf : Nat} : l_ad x y a f g tk tv tf 90 = (g 4) := rfl
theorem la_91 {x y : Nat} {a : Nat → Nat} {f : Nat → Nat → Nat} {g tk tv : Nat → Nat} {tf : Nat} : l_ad x y a f g tk tv tf 91 = (g 5) := rfl
theorem la_92 {x y : Nat} {a : Nat → Nat} {f : Nat → Nat → Nat} {g tk tv : Nat → Nat} {tf : Nat} : l_ad x y a f g tk tv tf 92 = (g 6) := rfl
theorem la_93 {x y : Nat} {a : Nat → Nat} {f : Nat → Nat → Nat} {g tk tv : Nat → Nat} {tf : Nat} : l_ad x y a f g tk tv tf 93 = (g 7) := rfl
theorem la_94 {x y : Nat} {a : Nat → Nat} {f : Nat → Nat → Nat} {g tk tv : Nat → Nat} {tf : Nat} : l_ad x y a f g tk tv tf 94 = (g 8) := rfl
theorem la_95 {x y : Nat} {a : Nat → Nat} {f : Nat → Nat → Nat} {g tk tv : Nat → Nat} {tf : Nat} : l_ad x y a f g tk tv tf 95 = (g 9) := rfl
theorem la_96 {x y : Nat} {a : Nat → Nat} {f : Nat → Nat → Nat} {g tk tv : Nat → Nat} {tf : Nat} : l_ad x y a f g tk tv tf 96 = (g 10) := rfl
theorem la_97 {x y : Nat} {a : Nat → Nat} {f : Nat → Nat → Nat} {g tk tv : Nat → Nat} {tf : Nat} : l_ad x y a f g tk tv tf 97 = (g 11) := rfl
theorem la_98 {x y : Nat} {a : Nat → Nat} {f : Nat → Nat → Nat} {g tk tv : Nat → Nat} {tf : Nat} : l_ad x y a f g tk tv tf 98 = (g 12) := rfl
theorem la_99 {x y : Nat} {a : Nat → Nat} {f : Nat → Nat → Nat} {g tk tv : Nat → Nat} {tf : Nat} : l_ad x y a f g tk tv tf 99 = (g 13) := rfl
theorem la_100 {x y : Nat} {a : Nat → Nat} {f : Nat → Nat → Nat} {g tk tv : Nat → Nat} {tf : Nat} : l_ad x y a f g tk tv tf 100 = (g 14) := rfl
theorem la_101 {x y : Nat} {a : Nat → Nat} {f : Nat → Nat → Nat} {g tk tv : Nat → Nat} {tf : Nat} : l_ad x y a f g tk tv tf 101 = (g 15) := rfl
theorem la_102 {x y : Nat} {a : Nat → Nat} {f : Nat → Nat → Nat} {g tk tv : Nat → Nat} {tf : Nat} : l_ad x y a f g tk tv tf 102 = (g 16) := rfl
theorem la_103 {x y : Nat} {a : Nat → Nat} {f : Nat → Nat → Nat} {g tk tv : Nat → Nat} {tf : Nat} : l_ad x y a f g tk tv tf 103 = (g 17) := rfl
theorem la_104 {x y : Nat} {a : Nat → Nat} {f : Nat → Nat → Nat} {g tk tv : Nat → Nat} {tf : Nat} : l_ad x y a f g tk tv tf 104 = (g 18) := rfl
theorem la_105 {x y : Nat} {a : Nat → Nat} {f : Nat → Nat → Nat} {g tk tv : Nat → Nat} {tf : Nat} : l_ad x y a f g tk tv tf 105 = (g 19) := rfl
theorem kk_1 (j : Int) : k_all 1 j = k_G 1 j := by
  unfold k_all
  rw [if_neg (by decide), if_pos (by decide)]
theorem kk_2 (j : Int) : k_all 2 j = k_S 2 j := by
  unfold k_all
  rw [if_neg (by decide), if_neg (by decide), if_pos (by decide)]
theorem kk_3 (j : Int) : k_all 3 j = k_S 3 j := by
  unfold k_all
  rw [if_neg (by decide), if_neg (by decide), if_pos (by decide)]
theorem kk_4 (j : Int) : k_all 4 j = k_S 4 j := by
  unfold k_all
  rw [if_neg (by decide), if_neg (by decide), if_pos (by decide)]
theorem kk_5 (j : Int) : k_all 5 j = k_S 5 j := by
  unfold k_all
  rw [if_neg (by decide), if_neg (by decide), if_pos (by decide)]
theorem kk_6 (j : Int) : k_all 6 j = k_S 6 j := by
  unfold k_all
  rw [if_neg (by decide), if_neg (by decide), if_pos (by decide)]
theorem kk_7 (j : Int) : k_all 7 j = k_S 7 j := by
  unfold k_all
  rw [if_neg (by decide), if_neg (by decide), if_pos (by decide)]
theorem kk_8 (j : Int) : k_all 8 j = k_S 8 j := by
  unfold k_all
  rw [if_neg (by decide), if_neg (by decide), if_pos (by decide)]
theorem kk_9 (j : Int) : k_all 9 j = k_S 9 j := by
  unfold k_all
  rw [if_neg (by decide), if_neg (by decide), if_pos (by decide)]
theorem kk_10 (j : Int) : k_all 10 j = k_S 10 j := by
  unfold k_all
  rw [if_neg (by decide), if_neg (by decide), if_pos (by decide)]
theorem kk_11 (j : Int) : k_all 11 j = k_S 11 j := by
  unfold k_all
  rw [if_neg (by decide), if_neg (by decide), if_pos (by decide)]
theorem kk_12 (j : Int) : k_all 12 j = k_S 12 j := by
  unfold k_all
  rw [if_neg (by decide), if_neg (by decide), if_pos (by decide)]
theorem kz_13 (j : Int) : k_all 13 j = 0 := by
  unfold k_all
  rw [if_neg (by decide), if_neg (by decide), if_neg (by decide), if_pos (by decide)]
theorem kz_14 (j : Int) : k_all 14 j = 0 := by
  unfold k_all
  rw [if_neg (by decide), if_neg (by decide), if_neg (by decide), if_pos (by decide)]
theorem kz_16 (j : Int) : k_all 16 j = 0 := by
  unfold k_all
  rw [if_neg (by decide), if_neg (by decide), if_neg (by decide), if_neg (by decide), if_pos (by decide)]
  rw [if_neg (fun h => absurd h.1 (by decide))]
theorem kz_17 (j : Int) : k_all 17 j = 0 := by
  unfold k_all
  rw [if_neg (by decide), if_neg (by decide), if_neg (by decide), if_neg (by decide), if_pos (by decide)]
  rw [if_neg (fun h => absurd h.1 (by decide))]
theorem kz_18 (j : Int) : k_all 18 j = 0 := by
  unfold k_all
  rw [if_neg (by decide), if_neg (by decide), if_neg (by decide), if_neg (by decide), if_pos (by decide)]
  rw [if_neg (fun h => absurd h.1 (by decide))]
theorem kz_19 (j : Int) : k_all 19 j = 0 := by
  unfold k_all
  rw [if_neg (by decide), if_neg (by decide), if_neg (by decide), if_neg (by decide), if_pos (by decide)]
  rw [if_neg (fun h => absurd h.1 (by decide))]
theorem kk_20 (j : Int) : k_all 20 j = k_W 20 j := by
  unfold k_all
  rw [if_neg (by decide), if_neg (by decide), if_neg (by decide), if_neg (by decide), if_neg (by decide), if_pos (by decide)]
theorem kk_21 (j : Int) : k_all 21 j = k_W 21 j := by
  unfold k_all
  rw [if_neg (by decide), if_neg (by decide), if_neg (by decide), if_neg (by decide), if_neg (by decide), if_pos (by decide)]
theorem kk_22 (j : Int) : k_all 22 j = k_W 22 j := by
  unfold k_all
  rw [if_neg (by decide), if_neg (by decide), if_neg (by decide), if_neg (by decide), if_neg (by decide), if_pos (by decide)]
theorem kk_23 (j : Int) : k_all 23 j = k_W 23 j := by
  unfold k_all
  rw [if_neg (by decide), if_neg (by decide), if_neg (by decide), if_neg (by decide), if_neg (by decide), if_pos (by decide)]
theorem kk_24 (j : Int) : k_all 24 j = k_W 24 j := by
  unfold k_all
  rw [if_neg (by decide), if_neg (by decide), if_neg (by decide), if_neg (by decide), if_neg (by decide), if_pos (by decide)]
theorem kk_25 (j : Int) : k_all 25 j = k_W 25 j := by
  unfold k_all
  rw [if_neg (by decide), if_neg (by decide), if_neg (by decide), if_neg (by decide), if_neg (by decide), if_pos (by decide)]
theorem kk_26 (j : Int) : k_all 26 j = k_W 26 j := by
  unfold k_all
  rw [if_neg (by decide), if_neg (by decide), if_neg (by decide), if_neg (by decide), if_neg (by decide), if_pos (by decide)]
theorem kk_27 (j : Int) : k_all 27 j = k_W 27 j := by
  unfold k_all
  rw [if_neg (by decide), if_neg (by decide), if_neg (by decide), if_neg (by decide), if_neg (by decide), if_pos (by decide)]
theorem kk_28 (j : Int) : k_all 28 j = k_W 28 j := by
  unfold k_all
  rw [if_neg (by decide), if_neg (by decide), if_neg (by decide), if_neg (by decide), if_neg (by decide), if_pos (by decide)]
theorem kk_29 (j : Int) : k_all 29 j = k_W 29 j := by
  unfold k_all
  rw [if_neg (by decide), if_neg (by decide), if_neg (by decide), if_neg (by decide), if_neg (by decide), if_pos (by decide)]
theorem kk_30 (j : Int) : k_all 30 j = k_W 30 j := by
  unfold k_all
  rw [if_neg (by decide), if_neg (by decide), if_neg (by decide), if_neg (by decide), if_neg (by decide), if_pos (by decide)]
theorem kk_31 (j : Int) : k_all 31 j = k_W 31 j := by
  unfold k_all
  rw [if_neg (by decide), if_neg (by decide), if_neg (by decide), if_neg (by decide), if_neg (by decide), if_pos (by decide)]
theorem kk_32 (j : Int) : k_all 32 j = k_W 32 j := by
  unfold k_all
  rw [if_neg (by decide), if_neg (by decide), if_neg (by decide), if_neg (by decide), if_neg (by decide), if_pos (by decide)]
theorem kk_33 (j : Int) : k_all 33 j = k_W 33 j := by
  unfold k_all
  rw [if_neg (by decide), if_neg (by decide), if_neg (by decide), if_neg (by decide), if_neg (by decide), if_pos (by decide)]
theorem kk_34 (j : Int) : k_all 34 j = k_W 34 j := by
  unfold k_all
  rw [if_neg (by decide), if_neg (by decide), if_neg (by decide), if_neg (by decide), if_neg (by decide), if_pos (by decide)]
theorem kk_35 (j : Int) : k_all 35 j = k_W 35 j := by
  unfold k_all
  rw [if_neg (by decide), if_neg (by decide), if_neg (by decide), if_neg (by decide), if_neg (by decide), if_pos (by decide)]
theorem kk_36 (j : Int) : k_all 36 j = k_W 36 j := by
  unfold k_all
  rw [if_neg (by decide), if_neg (by decide), if_neg (by decide), if_neg (by decide), if_neg (by decide), if_pos (by decide)]
theorem kk_37 (j : Int) : k_all 37 j = k_W 37 j := by
  unfold k_all
  rw [if_neg (by decide), if_neg (by decide), if_neg (by decide), if_neg (by decide), if_neg (by decide), if_pos (by decide)]
theorem kk_38 (j : Int) : k_all 38 j = k_W 38 j := by
  unfold k_all
  rw [if_neg (by decide), if_neg (by decide), if_neg (by decide), if_neg (by decide), if_neg (by decide), if_pos (by decide)]
theorem kk_39 (j : Int) : k_all 39 j = k_P 39 39 j := by
  unfold k_all
  rw [if_neg (by decide), if_neg (by decide), if_neg (by decide), if_neg (by decide), if_neg (by decide), if_neg (by decide), if_pos (by decide)]
theorem kk_40 (j : Int) : k_all 40 j = k_P 39 40 j := by
  unfold k_all
  rw [if_neg (by decide), if_neg (by decide), if_neg (by decide), if_neg (by decide), if_neg (by decide), if_neg (by decide), if_pos (by decide)]
theorem kk_41 (j : Int) : k_all 41 j = k_P 39 41 j := by
  unfold k_all
  rw [if_neg (by decide), if_neg (by decide), if_neg (by decide), if_neg (by decide), if_neg (by decide), if_neg (by decide), if_pos (by decide)]
theorem kk_42 (j : Int) : k_all 42 j = k_P 39 42 j := by
  unfold k_all
  rw [if_neg (by decide), if_neg (by decide), if_neg (by decide), if_neg (by decide), if_neg (by decide), if_neg (by decide), if_pos (by decide)]
theorem kk_43 (j : Int) : k_all 43 j = k_P 39 43 j := by
  unfold k_all
  rw [if_neg (by decide), if_neg (by decide), if_neg (by decide), if_neg (by decide), if_neg (by decide), if_neg (by decide), if_pos (by decide)]
theorem kk_44 (j : Int) : k_all 44 j = k_P 39 44 j := by
  unfold k_all
  rw [if_neg (by decide), if_neg (by decide), if_neg (by decide), if_neg (by decide), if_neg (by decide), if_neg (by decide), if_pos (by decide)]
theorem kk_45 (j : Int) : k_all 45 j = k_P 39 45 j := by
  unfold k_all
  rw [if_neg (by decide), if_neg (by decide), if_neg (by decide), if_neg (by decide), if_neg (by decide), if_neg (by decide), if_pos (by decide)]
theorem kk_46 (j : Int) : k_all 46 j = k_P 39 46 j := by
  unfold k_all
  rw [if_neg (by decide), if_neg (by decide), if_neg (by decide), if_neg (by decide), if_neg (by decide), if_neg (by decide), if_pos (by decide)]
theorem kk_47 (j : Int) : k_all 47 j = k_P 39 47 j := by
  unfold k_all
  rw [if_neg (by decide), if_neg (by decide), if_neg (by decide), if_neg (by decide), if_neg (by decide), if_neg (by decide), if_pos (by decide)]
theorem kk_48 (j : Int) : k_all 48 j = k_P 39 48 j := by
  unfold k_all
  rw [if_neg (by decide), if_neg (by decide), if_neg (by decide), if_neg (by decide), if_neg (by decide), if_neg (by decide), if_pos (by decide)]
theorem kk_49 (j : Int) : k_all 49 j = k_P 39 49 j := by
  unfold k_all
  rw [if_neg (by decide), if_neg (by decide), if_neg (by decide), if_neg (by decide), if_neg (by decide), if_neg (by decide), if_pos (by decide)]
theorem kk_50 (j : Int) : k_all 50 j = k_P 39 50 j := by
  unfold k_all
  rw [if_neg (by decide), if_neg (by decide), if_neg (by decide), if_neg (by decide), if_neg (by decide), if_neg (by decide), if_pos (by decide)]
theorem kk_51 (j : Int) : k_all 51 j = k_P 39 51 j := by
  unfold k_all
  rw [if_neg (by decide), if_neg (by decide), if_neg (by decide), if_neg (by decide), if_neg (by decide), if_neg (by decide), if_pos (by decide)]
theorem kk_52 (j : Int) : k_all 52 j = k_P 39 52 j := by
  unfold k_all
  rw [if_neg (by decide), if_neg (by decide), if_neg (by decide), if_neg (by decide), if_neg (by decide), if_neg (by decide), if_pos (by decide)]
theorem kk_53 (j : Int) : k_all 53 j = k_P 39 53 j := by
  unfold k_all
  rw [if_neg (by decide), if_neg (by decide), if_neg (by decide), if_neg (by decide), if_neg (by decide), if_neg (by decide), if_pos (by decide)]
theorem kk_54 (j : Int) : k_all 54 j = k_P 39 54 j := by
  unfold k_all
  rw [if_neg (by decide), if_neg (by decide), if_neg (by decide), if_neg (by decide), if_neg (by decide), if_neg (by decide), if_pos (by decide)]
theorem kk_55 (j : Int) : k_all 55 j = k_P 39 55 j := by
  unfold k_all
  rw [if_neg (by decide), if_neg (by decide), if_neg (by decide), if_neg (by decide), if_neg (by decide), if_neg (by decide), if_pos (by decide)]
theorem kk_56 (j : Int) : k_all 56 j = k_P 39 56 j := by
  unfold k_all
  rw [if_neg (by decide), if_neg (by decide), if_neg (by decide), if_neg (by decide), if_neg (by decide), if_neg (by decide), if_pos (by decide)]
theorem kk_57 (j : Int) : k_all 57 j = k_P 39 57 j := by
  unfold k_all
  rw [if_neg (by decide), if_neg (by decide), if_neg (by decide), if_neg (by decide), if_neg (by decide), if_neg (by decide), if_pos (by decide)]
theorem kk_58 (j : Int) : k_all 58 j = k_P 39 58 j := by
  unfold k_all
  rw [if_neg (by decide), if_neg (by decide), if_neg (by decide), if_neg (by decide), if_neg (by decide), if_neg (by decide), if_pos (by decide)]
theorem kk_59 (j : Int) : k_all 59 j = k_P 39 59 j := by
  unfold k_all
  rw [if_neg (by decide), if_neg (by decide), if_neg (by decide), if_neg (by decide), if_neg (by decide), if_neg (by decide), if_pos (by decide)]
theorem kk_60 (j : Int) : k_all 60 j = k_P 39 60 j := by
  unfold k_all
  rw [if_neg (by decide), if_neg (by decide), if_neg (by decide), if_neg (by decide), if_neg (by decide), if_neg (by decide), if_pos (by decide)]
theorem kk_61 (j : Int) : k_all 61 j = k_P 39 61 j := by
  unfold k_all
  rw [if_neg (by decide), if_neg (by decide), if_neg (by decide), if_neg (by decide), if_neg (by decide), if_neg (by decide), if_pos (by decide)]
theorem kk_62 (j : Int) : k_all 62 j = k_P 62 62 j := by
  unfold k_all
  rw [if_neg (by decide), if_neg (by decide), if_neg (by decide), if_neg (by decide), if_neg (by decide), if_neg (by decide), if_neg (by decide), if_pos (by decide)]
theorem kk_63 (j : Int) : k_all 63 j = k_P 62 63 j := by
  unfold k_all
  rw [if_neg (by decide), if_neg (by decide), if_neg (by decide), if_neg (by decide), if_neg (by decide), if_neg (by decide), if_neg (by decide), if_pos (by decide)]
theorem kk_64 (j : Int) : k_all 64 j = k_P 62 64 j := by
  unfold k_all
  rw [if_neg (by decide), if_neg (by decide), if_neg (by decide), if_neg (by decide), if_neg (by decide), if_neg (by decide), if_neg (by decide), if_pos (by decide)]
theorem kk_65 (j : Int) : k_all 65 j = k_P 62 65 j := by
  unfold k_all
  rw [if_neg (by decide), if_neg (by decide), if_neg (by decide), if_neg (by decide), if_neg (by decide), if_neg (by decide), if_neg (by decide), if_pos (by decide)]
theorem kk_66 (j : Int) : k_all 66 j = k_P 62 66 j := by
  unfold k_all
  rw [if_neg (by decide), if_neg (by decide), if_neg (by decide), if_neg (by decide), if_neg (by decide), if_neg (by decide), if_neg (by decide), if_pos (by decide)]
theorem kk_67 (j : Int) : k_all 67 j = k_P 62 67 j := by
  unfold k_all
  rw [if_neg (by decide), if_neg (by decide), if_neg (by decide), if_neg (by decide), if_neg (by decide), if_neg (by decide), if_neg (by decide), if_pos (by decide)]
theorem kk_68 (j : Int) : k_all 68 j = k_P 62 68 j := by
  unfold k_all
  rw [if_neg (by decide), if_neg (by decide), if_neg (by decide), if_neg (by decide), if_neg (by decide), if_neg (by decide), if_neg (by decide), if_pos (by decide)]
theorem kk_69 (j : Int) : k_all 69 j = k_P 62 69 j := by
  unfold k_all
  rw [if_neg (by decide), if_neg (by decide), if_neg (by decide), if_neg (by decide), if_neg (by decide), if_neg (by decide), if_neg (by decide), if_pos (by decide)]
theorem kk_70 (j : Int) : k_all 70 j = k_P 62 70 j := by
  unfold k_all
  rw [if_neg (by decide), if_neg (by decide), if_neg (by decide), if_neg (by decide), if_neg (by decide), if_neg (by decide), if_neg (by decide), if_pos (by decide)]
theorem kk_71 (j : Int) : k_all 71 j = k_P 62 71 j := by
  unfold k_all
  rw [if_neg (by decide), if_neg (by decide), if_neg (by decide), if_neg (by decide), if_neg (by decide), if_neg (by decide), if_neg (by decide), if_pos (by decide)]
theorem kk_72 (j : Int) : k_all 72 j = k_P 62 72 j := by
  unfold k_all
  rw [if_neg (by decide), if_neg (by decide), if_neg (by decide), if_neg (by decide), if_neg (by decide), if_neg (by decide), if_neg (by decide), if_pos (by decide)]
theorem kk_73 (j : Int) : k_all 73 j = k_P 62 73 j := by
  unfold k_all
  rw [if_neg (by decide), if_neg (by decide), if_neg (by decide), if_neg (by decide), if_neg (by decide), if_neg (by decide), if_neg (by decide), if_pos (by decide)]
theorem kk_74 (j : Int) : k_all 74 j = k_P 62 74 j := by
  unfold k_all
  rw [if_neg (by decide), if_neg (by decide), if_neg (by decide), if_neg (by decide), if_neg (by decide), if_neg (by decide), if_neg (by decide), if_pos (by decide)]
theorem kk_75 (j : Int) : k_all 75 j = k_P 62 75 j := by
  unfold k_all
  rw [if_neg (by decide), if_neg (by decide), if_neg (by decide), if_neg (by decide), if_neg (by decide), if_neg (by decide), if_neg (by decide), if_pos (by decide)]
theorem kk_76 (j : Int) : k_all 76 j = k_P 62 76 j := by
  unfold k_all
  rw [if_neg (by decide), if_neg (by decide), if_neg (by decide), if_neg (by decide), if_neg (by decide), if_neg (by decide), if_neg (by decide), if_pos (by decide)]
theorem kk_77 (j : Int) : k_all 77 j = k_P 62 77 j := by
  unfold k_all
  rw [if_neg (by decide), if_neg (by decide), if_neg (by decide), if_neg (by decide), if_neg (by decide), if_neg (by decide), if_neg (by decide), if_pos (by decide)]
theorem kk_78 (j : Int) : k_all 78 j = k_P 62 78 j := by
  unfold k_all
  rw [if_neg (by decide), if_neg (by decide), if_neg (by decide), if_neg (by decide), if_neg (by decide), if_neg (by decide), if_neg (by decide), if_pos (by decide)]
theorem kk_79 (j : Int) : k_all 79 j = k_P 62 79 j := by
  unfold k_all
  rw [if_neg (by decide), if_neg (by decide), if_neg (by decide), if_neg (by decide), if_neg (by decide), if_neg (by decide), if_neg (by decide), if_pos (by decide)]
theorem kk_80 (j : Int) : k_all 80 j = k_P 62 80 j := by
  unfold k_all
  rw [if_neg (by decide), if_neg (by decide), if_neg (by decide), if_neg (by decide), if_neg (by decide), if_neg (by decide), if_neg (by decide), if_pos (by decide)]
theorem kk_81 (j : Int) : k_all 81 j = k_P 62 81 j := by
  unfold k_all
  rw [if_neg (by decide), if_neg (by decide), if_neg (by decide), if_neg (by decide), if_neg (by decide), if_neg (by decide), if_neg (by decide), if_pos (by decide)]
theorem kk_82 (j : Int) : k_all 82 j = k_P 62 82 j := by
  unfold k_all
  rw [if_neg (by decide), if_neg (by decide), if_neg (by decide), if_neg (by decide), if_neg (by decide), if_neg (by decide), if_neg (by decide), if_pos (by decide)]
theorem kk_83 (j : Int) : k_all 83 j = k_P 62 83 j := by
  unfold k_all
  rw [if_neg (by decide), if_neg (by decide), if_neg (by decide), if_neg (by decide), if_neg (by decide), if_neg (by decide), if_neg (by decide), if_pos (by decide)]
theorem kk_84 (j : Int) : k_all 84 j = k_P 62 84 j := by
  unfold k_all
  rw [if_neg (by decide), if_neg (by decide), if_neg (by decide), if_neg (by decide), if_neg (by decide), if_neg (by decide), if_neg (by decide), if_pos (by decide)]
theorem kk_85 (j : Int) : k_all 85 j = k_M 85 j := by
  unfold k_all
  rw [if_neg (by decide), if_neg (by decide), if_neg (by decide), if_neg (by decide), if_neg (by decide), if_neg (by decide), if_neg (by decide), if_neg (by decide)]
theorem kk_86 (j : Int) : k_all 86 j = k_M 86 j := by
  unfold k_all
  rw [if_neg (by decide), if_neg (by decide), if_neg (by decide), if_neg (by decide), if_neg (by decide), if_neg (by decide), if_neg (by decide), if_neg (by decide)]
theorem kk_87 (j : Int) : k_all 87 j = k_M 87 j := by
  unfold k_all
  rw [if_neg (by decide), if_neg (by decide), if_neg (by decide), if_neg (by decide), if_neg (by decide), if_neg (by decide), if_neg (by decide), if_neg (by decide)]
theorem kk_88 (j : Int) : k_all 88 j = k_M 88 j := by
  unfold k_all
  rw [if_neg (by decide), if_neg (by decide), if_neg (by decide), if_neg (by decide), if_neg (by decide), if_neg (by decide), if_neg (by decide), if_neg (by decide)]
theorem kk_89 (j : Int) : k_all 89 j = k_M 89 j := by
  unfold k_all
  rw [if_neg (by decide), if_neg (by decide), if_neg (by decide), if_neg (by decide), if_neg (by decide), if_neg (by decide), if_neg (by decide), if_neg (by decide)]
theorem kk_90 (j : Int) : k_all 90 j = k_M 90 j := by
  unfold k_all
  rw [if_neg (by decide), if_neg (by decide), if_neg (by decide), if_neg (by decide), if_neg (by decide), if_neg (by decide), if_neg (by decide), if_neg (by decide)]
theorem kk_91 (j : Int) : k_all 91 j = k_M 91 j := by
  unfold k_all
  rw [if_neg (by decide), if_neg (by decide), if_neg (by decide), if_neg (by decide), if_neg (by decide), if_neg (by decide), if_neg (by decide), if_neg (by decide)]
theorem kk_92 (j : Int) : k_all 92 j = k_M 92 j := by
  unfold k_all
  rw [if_neg (by decide), if_neg (by decide), if_neg (by decide), if_neg (by decide), if_neg (by decide), if_neg (by decide), if_neg (by decide), if_neg (by decide)]
theorem kk_93 (j : Int) : k_all 93 j = k_M 93 j := by
  unfold k_all
  rw [if_neg (by decide), if_neg (by decide), if_neg (by decide), if_neg (by decide), if_neg (by decide), if_neg (by decide), if_neg (by decide), if_neg (by decide)]
theorem kk_94 (j : Int) : k_all 94 j = k_M 94 j := by
  unfold k_all
  rw [if_neg (by decide), if_neg (by decide), if_neg (by decide), if_neg (by decide), if_neg (by decide), if_neg (by decide), if_neg (by decide), if_neg (by decide)]
theorem kk_95 (j : Int) : k_all 95 j = k_M 95 j := by
  unfold k_all
  rw [if_neg (by decide), if_neg (by decide), if_neg (by decide), if_neg (by decide), if_neg (by decide), if_neg (by decide), if_neg (by decide), if_neg (by decide)]
theorem kk_96 (j : Int) : k_all 96 j = k_M 96 j := by
  unfold k_all
  rw [if_neg (by decide), if_neg (by decide), if_neg (by decide), if_neg (by decide), if_neg (by decide), if_neg (by decide), if_neg (by decide), if_neg (by decide)]
theorem kk_97 (j : Int) : k_all 97 j = k_M 97 j := by
  unfold k_all
  rw [if_neg (by decide), if_neg (by decide), if_neg (by decide), if_neg (by decide), if_neg (by decide), if_neg (by decide), if_neg (by decide), if_neg (by decide)]
theorem kk_98 (j : Int) : k_all 98 j = k_M 98 j := by
  unfold k_all
  rw [if_neg (by decide), if_neg (by decide), if_neg (by decide), if_neg (by decide), if_neg (by decide), if_neg (by decide), if_neg (by decide), if_neg (by decide)]
theorem kk_99 (j : Int) : k_all 99 j = k_M 99 j := by
  unfold k_all
  rw [if_neg (by decide), if_neg (by decide), if_neg (by decide), if_neg (by decide), if_neg (by decide), if_neg (by decide), if_neg (by decide), if_neg (by decide)]
theorem kk_100 (j : Int) : k_all 100 j = k_M 100 j := by
  unfold k_all
  rw [if_neg (by decide), if_neg (by decide), if_neg (by decide), if_neg (by decide), if_neg (by decide), if_neg (by decide), if_neg (by decide), if_neg (by decide)]
theorem kk_101 (j : Int) : k_all 101 j = k_M 101 j := by
  unfold k_all
  rw [if_neg (by decide), if_neg (by decide), if_neg (by decide), if_neg (by decide), if_neg (by decide), if_neg (by decide), if_neg (by decide), if_neg (by decide)]
theorem kk_102 (j : Int) : k_all 102 j = k_M 102 j := by
  unfold k_all
  rw [if_neg (by decide), if_neg (by decide), if_neg (by decide), if_neg (by decide), if_neg (by decide), if_neg (by decide), if_neg (by decide), if_neg (by decide)]
theorem kk_103 (j : Int) : k_all 103 j = k_M 103 j := by
  unfold k_all
  rw [if_neg (by decide), if_neg (by decide), if_neg (by decide), if_neg (by decide), if_neg (by decide), if_neg (by decide), if_neg (by decide), if_neg (by decide)]
theorem kk_104 (j : Int) : k_all 104 j = k_M 104 j := by
  unfold k_all
  rw [if_neg (by decide), if_neg (by decide), if_neg (by decide), if_neg (by decide), if_neg (by decide), if_neg (by decide), if_neg (by decide), if_neg (by decide)]
theorem kk_105 (j : Int) : k_all 105 j = k_M 105 j := by
  unfold k_all
  rw [if_neg (by decide), if_neg (by decide), if_neg (by decide), if_neg (by decide), if_neg (by decide), if_neg (by decide), if_neg (by decide), if_neg (by decide)]
theorem kk_15 : k_all 15 1 = 62 := by decide +kernel
theorem kk_0_5 : k_all 0 5 = 39 := by decide +kernel
theorem kk_0_6 : k_all 0 6 = 62 := by decide +kernel
theorem kk_0_7 : k_all 0 7 = -1 := by decide +kernel
theorem kk_0_8 : k_all 0 8 = 0 := by decide +kernel
theorem kk_20_5 : k_W 20 5 = 39 := by decide +kernel
theorem kk_20_6 : k_W 20 6 = 0 := by decide +kernel
theorem k0_22 (j : Int) : k_W 22 j = 0 := by simp [k_W, q_rows, q_fill, k_V]
theorem k0_35_0 : k_W 35 0 = 0 := by decide +kernel
theorem k0_35_1 : k_W 35 1 = 0 := by decide +kernel
theorem k0_35_2 : k_W 35 2 = 0 := by decide +kernel
theorem k0_35_3 : k_W 35 3 = 0 := by decide +kernel
theorem k0_36 (j : Int) : k_W 36 j = k_V 36 j := by simp [k_W, q_rows, q_fill]
theorem k0_37 (j : Int) : k_W 37 j = 0 := by simp [k_W, q_rows, q_fill, k_V]
theorem k0_38 (j : Int) : k_W 38 j = 0 := by simp [k_W, q_rows, q_fill, k_V]
theorem k0_42_1 : k_P 39 42 1 = 0 := by decide +kernel
theorem k0_42_2 : k_P 39 42 2 = 0 := by decide +kernel
theorem k0_42_3 : k_P 39 42 3 = 0 := by decide +kernel
theorem k0_42_4 : k_P 39 42 4 = 0 := by decide +kernel
theorem k0_43_1 : k_P 39 43 1 = 0 := by decide +kernel
theorem k0_43_2 : k_P 39 43 2 = 0 := by decide +kernel
theorem k0_43_3 : k_P 39 43 3 = 0 := by decide +kernel
theorem k0_43_4 : k_P 39 43 4 = 0 := by decide +kernel
theorem k0_44_1 : k_P 39 44 1 = 0 := by decide +kernel
theorem k0_44_2 : k_P 39 44 2 = 0 := by decide +kernel
theorem k0_44_3 : k_P 39 44 3 = 0 := by decide +kernel
theorem k0_44_4 : k_P 39 44 4 = 0 := by decide +kernel
theorem k0_45_1 : k_P 39 45 1 = 0 := by decide +kernel
theorem k0_45_2 : k_P 39 45 2 = 0 := by decide +kernel
theorem k0_45_3 : k_P 39 45 3 = 0 := by decide +kernel
theorem k0_45_4 : k_P 39 45 4 = 0 := by decide +kernel
theorem k0_46_1 : k_P 39 46 1 = 0 := by decide +kernel
theorem k0_46_2 : k_P 39 46 2 = 0 := by decide +kernel
theorem k0_46_3 : k_P 39 46 3 = 0 := by decide +kernel
theorem k0_46_4 : k_P 39 46 4 = 0 := by decide +kernel
theorem k0_47_1 : k_P 39 47 1 = 0 := by decide +kernel
theorem k0_47_2 : k_P 39 47 2 = 0 := by decide +kernel
theorem k0_47_3 : k_P 39 47 3 = 0 := by decide +kernel
theorem k0_47_4 : k_P 39 47 4 = 0 := by decide +kernel
theorem k0_48_1 : k_P 39 48 1 = 0 := by decide +kernel
theorem k0_48_2 : k_P 39 48 2 = 0 := by decide +kernel
theorem k0_48_3 : k_P 39 48 3 = 0 := by decide +kernel
theorem k0_48_4 : k_P 39 48 4 = 0 := by decide +kernel
theorem k0_49_1 : k_P 39 49 1 = 0 := by decide +kernel
theorem k0_49_2 : k_P 39 49 2 = 0 := by decide +kernel
theorem k0_49_3 : k_P 39 49 3 = 0 := by decide +kernel
theorem k0_49_4 : k_P 39 49 4 = 0 := by decide +kernel
theorem k0_50_1 : k_P 39 50 1 = 0 := by decide +kernel
theorem k0_50_2 : k_P 39 50 2 = 0 := by decide +kernel
theorem k0_50_3 : k_P 39 50 3 = 0 := by decide +kernel
theorem k0_50_4 : k_P 39 50 4 = 0 := by decide +kernel
theorem k0_51_1 : k_P 39 51 1 = 0 := by decide +kernel
theorem k0_51_2 : k_P 39 51 2 = 0 := by decide +kernel
theorem k0_51_3 : k_P 39 51 3 = 0 := by decide +kernel
theorem k0_51_4 : k_P 39 51 4 = 0 := by decide +kernel
theorem k0_52 (j : Int) : k_P 39 52 j = 0 := by simp [k_P, q_fill, q_up, k_0]
theorem k0_53 (j : Int) : k_P 39 53 j = 0 := by simp [k_P, q_fill, q_up, k_0]
theorem k0_54 (j : Int) : k_P 39 54 j = 0 := by simp [k_P, q_fill, q_up, k_0]
theorem k0_55 (j : Int) : k_P 39 55 j = 0 := by simp [k_P, q_fill, q_up, k_0]
theorem k0_56 (j : Int) : k_P 39 56 j = 0 := by simp [k_P, q_fill, q_up, k_0]
theorem k0_57 (j : Int) : k_P 39 57 j = 0 := by simp [k_P, q_fill, q_up, k_0]
theorem k0_58 (j : Int) : k_P 39 58 j = 0 := by simp [k_P, q_fill, q_up, k_0]
theorem k0_59 (j : Int) : k_P 39 59 j = 0 := by simp [k_P, q_fill, q_up, k_0]
theorem k0_60 (j : Int) : k_P 39 60 j = 0 := by simp [k_P, q_fill, q_up, k_0]
theorem k0_61 (j : Int) : k_P 39 61 j = 0 := by simp [k_P, q_fill, q_up, k_0]
theorem k0_65_1 : k_P 62 65 1 = 0 := by decide +kernel
theorem k0_65_2 : k_P 62 65 2 = 0 := by decide +kernel
theorem k0_65_3 : k_P 62 65 3 = 0 := by decide +kernel
theorem k0_65_4 : k_P 62 65 4 = 0 := by decide +kernel
theorem k0_66_1 : k_P 62 66 1 = 0 := by decide +kernel
theorem k0_66_2 : k_P 62 66 2 = 0 := by decide +kernel
theorem k0_66_3 : k_P 62 66 3 = 0 := by decide +kernel
theorem k0_66_4 : k_P 62 66 4 = 0 := by decide +kernel
theorem k0_67_1 : k_P 62 67 1 = 0 := by decide +kernel
theorem k0_67_2 : k_P 62 67 2 = 0 := by decide +kernel
theorem k0_67_3 : k_P 62 67 3 = 0 := by decide +kernel
theorem k0_67_4 : k_P 62 67 4 = 0 := by decide +kernel
theorem k0_68_1 : k_P 62 68 1 = 0 := by decide +kernel
theorem k0_68_2 : k_P 62 68 2 = 0 := by decide +kernel
theorem k0_68_3 : k_P 62 68 3 = 0 := by decide +kernel
theorem k0_68_4 : k_P 62 68 4 = 0 := by decide +kernel
theorem k0_69_1 : k_P 62 69 1 = 0 := by decide +kernel
theorem k0_69_2 : k_P 62 69 2 = 0 := by decide +kernel
theorem k0_69_3 : k_P 62 69 3 = 0 := by decide +kernel
theorem k0_69_4 : k_P 62 69 4 = 0 := by decide +kernel
theorem k0_70_1 : k_P 62 70 1 = 0 := by decide +kernel
theorem k0_70_2 : k_P 62 70 2 = 0 := by decide +kernel
theorem k0_70_3 : k_P 62 70 3 = 0 := by decide +kernel
theorem k0_70_4 : k_P 62 70 4 = 0 := by decide +kernel
theorem k0_71_1 : k_P 62 71 1 = 0 := by decide +kernel
theorem k0_71_2 : k_P 62 71 2 = 0 := by decide +kernel
theorem k0_71_3 : k_P 62 71 3 = 0 := by decide +kernel
theorem k0_71_4 : k_P 62 71 4 = 0 := by decide +kernel
theorem k0_72_1 : k_P 62 72 1 = 0 := by decide +kernel
theorem k0_72_2 : k_P 62 72 2 = 0 := by decide +kernel
theorem k0_72_3 : k_P 62 72 3 = 0 := by decide +kernel
theorem k0_72_4 : k_P 62 72 4 = 0 := by decide +kernel
theorem k0_73_1 : k_P 62 73 1 = 0 := by decide +kernel
theorem k0_73_2 : k_P 62 73 2 = 0 := by decide +kernel
theorem k0_73_3 : k_P 62 73 3 = 0 := by decide +kernel
theorem k0_73_4 : k_P 62 73 4 = 0 := by decide +kernel
theorem k0_74_1 : k_P 62 74 1 = 0 := by decide +kernel
theorem k0_74_2 : k_P 62 74 2 = 0 := by decide +kernel
theorem k0_74_3 : k_P 62 74 3 = 0 := by decide +kernel
theorem k0_74_4 : k_P 62 74 4 = 0 := by decide +kernel
theorem k0_75 (j : Int) : k_P 62 75 j = 0 := by simp [k_P, q_fill, q_up, k_0]
theorem k0_76 (j : Int) : k_P 62 76 j = 0 := by simp [k_P, q_fill, q_up, k_0]
theorem k0_77 (j : Int) : k_P 62 77 j = 0 := by simp [k_P, q_fill, q_up, k_0]
theorem k0_78 (j : Int) : k_P 62 78 j = 0 := by simp [k_P, q_fill, q_up, k_0]
theorem k0_79 (j : Int) : k_P 62 79 j = 0 := by simp [k_P, q_fill, q_up, k_0]
theorem k0_80 (j : Int) : k_P 62 80 j = 0 := by simp [k_P, q_fill, q_up, k_0]
theorem k0_81 (j : Int) : k_P 62 81 j = 0 := by simp [k_P, q_fill, q_up, k_0]
theorem k0_82 (j : Int) : k_P 62 82 j = 0 := by simp [k_P, q_fill, q_up, k_0]
theorem k0_83 (j : Int) : k_P 62 83 j = 0 := by simp [k_P, q_fill, q_up, k_0]
theorem k0_84 (j : Int) : k_P 62 84 j = 0 := by simp [k_P, q_fill, q_up, k_0]
theorem k0_85_18 : k_M 85 18 = 0 := by decide +kernel
theorem k0_85_19 : k_M 85 19 = 0 := by decide +kernel
theorem k0_85_20 : k_M 85 20 = 0 := by decide +kernel
theorem k0_85_35 : k_M 85 35 = 0 := by decide +kernel
theorem k0_85_37 : k_M 85 37 = 0 := by decide +kernel
theorem k0_87 (j : Int) : k_M 87 j = 0 := by simp [k_M, q_fill, k_N]
theorem k0_89 (j : Int) : k_M 89 j = 0 := by simp [k_M, q_fill, k_N]
theorem k0_90 (j : Int) : k_M 90 j = 0 := by simp [k_M, q_fill, k_N]
theorem k0_91 (j : Int) : k_M 91 j = 0 := by simp [k_M, q_fill, k_N]
theorem k0_92 (j : Int) : k_M 92 j = 0 := by simp [k_M, q_fill, k_N]
theorem k0_93 (j : Int) : k_M 93 j = 0 := by simp [k_M, q_fill, k_N]
theorem k0_95 (j : Int) : k_M 95 j = 0 := by simp [k_M, q_fill, k_N]
theorem k0_96 (j : Int) : k_M 96 j = 0 := by simp [k_M, q_fill, k_N]
theorem k0_97 (j : Int) : k_M 97 j = 0 := by simp [k_M, q_fill, k_N]
theorem k0_98 (j : Int) : k_M 98 j = 0 := by simp [k_M, q_fill, k_N]
theorem k0_99 (j : Int) : k_M 99 j = 0 := by simp [k_M, q_fill, k_N]
theorem k0_100 (j : Int) : k_M 100 j = 0 := by simp [k_M, q_fill, k_N]
theorem k0_101 (j : Int) : k_M 101 j = 0 := by simp [k_M, q_fill, k_N]
theorem k0_102 (j : Int) : k_M 102 j = 0 := by simp [k_M, q_fill, k_N]
theorem k0_103 (j : Int) : k_M 103 j = 0 := by simp [k_M, q_fill, k_N]
theorem k0_105 (j : Int) : k_M 105 j = 0 := by simp [k_M, q_fill, k_N]
theorem rf_39 {ad : Int → Nat} : va_rf (q_rf ad 39) = .ref (ad 39) := rfl
theorem rf_62 {ad : Int → Nat} : va_rf (q_rf ad 62) = .ref (ad 62) := rfl
theorem pe_0 {x y : Nat} {a : Nat → Nat} {f : Nat → Nat → Nat} {g tk tv : Nat → Nat} {tf : Nat} {cy : Nat → ClassId} : q_ent (l_ad x y a f g tk tv tf) cy k_all 0 (q_T 0) = (.inr (10, [.ref (a 0), .ref (a 1), .ref (a 2), .ref (a 5), .ref (a 6), .ref (a 3), .ref (a 4), .int (-1), .int 0]) : va_E) := by
  simp only [en_0, la_1, la_2, la_13, la_15, la_20, kk_0_5, kk_0_6, kk_0_7, kk_0_8, la_39, la_62, ez_i, ez_m, rf_39, rf_62]
theorem pe_1 {x y : Nat} {a : Nat → Nat} {f : Nat → Nat → Nat} {g tk tv : Nat → Nat} {tf : Nat} {cy : Nat → ClassId} : q_ent (l_ad x y a f g tk tv tf) cy k_all 1 (q_T 1) = (.inr (0, [.int (Int32.ofInt (k_G 1 0)), .int (Int32.ofInt (k_G 1 1)), .int (Int32.ofInt (k_G 1 2))]) : va_E) := by
  simp only [en_1, kk_1, ez_i, ez_l]
theorem pe_2 {x y : Nat} {a : Nat → Nat} {f : Nat → Nat → Nat} {g tk tv : Nat → Nat} {tf : Nat} {cy : Nat → ClassId} : q_ent (l_ad x y a f g tk tv tf) cy k_all 2 (q_T 2) = (.inr (5, [.ref (f 1 0), .ref (f 1 5), .ref (f 1 9)]) : va_E) := by
  simp only [en_2, la_3, la_8, la_12]
theorem pe_3 {x y : Nat} {a : Nat → Nat} {f : Nat → Nat → Nat} {g tk tv : Nat → Nat} {tf : Nat} {cy : Nat → ClassId} : q_ent (l_ad x y a f g tk tv tf) cy k_all 3 (q_T 3) = (.inl (cy 5, 4, .inr (.inr (.inr (.inr (fun j => q_rf (l_ad x y a f g tk tv tf) (4 + (j : Int))))))) : va_E) := by
  simp only [en_3]
theorem pe_4 {x y : Nat} {a : Nat → Nat} {f : Nat → Nat → Nat} {g tk tv : Nat → Nat} {tf : Nat} {cy : Nat → ClassId} : q_ent (l_ad x y a f g tk tv tf) cy k_all 4 (q_T 4) = (.inl (cy 0, 196, .inl (fun j => Int32.ofInt (k_S 4 j))) : va_E) := by
  simp only [en_4, kk_4]
theorem pe_5 {x y : Nat} {a : Nat → Nat} {f : Nat → Nat → Nat} {g tk tv : Nat → Nat} {tf : Nat} {cy : Nat → ClassId} : q_ent (l_ad x y a f g tk tv tf) cy k_all 5 (q_T 5) = (.inl (cy 0, 196, .inl (fun j => Int32.ofInt (k_S 5 j))) : va_E) := by
  simp only [en_5, kk_5]
theorem pe_6 {x y : Nat} {a : Nat → Nat} {f : Nat → Nat → Nat} {g tk tv : Nat → Nat} {tf : Nat} {cy : Nat → ClassId} : q_ent (l_ad x y a f g tk tv tf) cy k_all 6 (q_T 6) = (.inl (cy 0, 196, .inl (fun j => Int32.ofInt (k_S 6 j))) : va_E) := by
  simp only [en_6, kk_6]
theorem pe_7 {x y : Nat} {a : Nat → Nat} {f : Nat → Nat → Nat} {g tk tv : Nat → Nat} {tf : Nat} {cy : Nat → ClassId} : q_ent (l_ad x y a f g tk tv tf) cy k_all 7 (q_T 7) = (.inl (cy 0, 196, .inl (fun j => Int32.ofInt (k_S 7 j))) : va_E) := by
  simp only [en_7, kk_7]
theorem pe_8 {x y : Nat} {a : Nat → Nat} {f : Nat → Nat → Nat} {g tk tv : Nat → Nat} {tf : Nat} {cy : Nat → ClassId} : q_ent (l_ad x y a f g tk tv tf) cy k_all 8 (q_T 8) = (.inl (cy 5, 3, .inr (.inr (.inr (.inr (fun j => q_rf (l_ad x y a f g tk tv tf) (9 + (j : Int))))))) : va_E) := by
  simp only [en_8]
theorem pe_9 {x y : Nat} {a : Nat → Nat} {f : Nat → Nat → Nat} {g tk tv : Nat → Nat} {tf : Nat} {cy : Nat → ClassId} : q_ent (l_ad x y a f g tk tv tf) cy k_all 9 (q_T 9) = (.inl (cy 0, 784, .inl (fun j => Int32.ofInt (k_S 9 j))) : va_E) := by
  simp only [en_9, kk_9]
theorem pe_10 {x y : Nat} {a : Nat → Nat} {f : Nat → Nat → Nat} {g tk tv : Nat → Nat} {tf : Nat} {cy : Nat → ClassId} : q_ent (l_ad x y a f g tk tv tf) cy k_all 10 (q_T 10) = (.inl (cy 0, 784, .inl (fun j => Int32.ofInt (k_S 10 j))) : va_E) := by
  simp only [en_10, kk_10]
theorem pe_11 {x y : Nat} {a : Nat → Nat} {f : Nat → Nat → Nat} {g tk tv : Nat → Nat} {tf : Nat} {cy : Nat → ClassId} : q_ent (l_ad x y a f g tk tv tf) cy k_all 11 (q_T 11) = (.inl (cy 0, 784, .inl (fun j => Int32.ofInt (k_S 11 j))) : va_E) := by
  simp only [en_11, kk_11]
theorem pe_12 {x y : Nat} {a : Nat → Nat} {f : Nat → Nat → Nat} {g tk tv : Nat → Nat} {tf : Nat} {cy : Nat → ClassId} : q_ent (l_ad x y a f g tk tv tf) cy k_all 12 (q_T 12) = (.inl (cy 2, 3, .inl (fun j => Int32.ofInt (k_S 12 j))) : va_E) := by
  simp only [en_12, kk_12]
theorem pe_13 {x y : Nat} {a : Nat → Nat} {f : Nat → Nat → Nat} {g tk tv : Nat → Nat} {tf : Nat} {cy : Nat → ClassId} : q_ent (l_ad x y a f g tk tv tf) cy k_all 13 (q_T 13) = (.inr (7, [.ref (f 2 0), .int 0]) : va_E) := by
  simp only [en_13, la_14, kz_13, ez_i]
theorem pe_14 {x y : Nat} {a : Nat → Nat} {f : Nat → Nat → Nat} {g tk tv : Nat → Nat} {tf : Nat} {cy : Nat → ClassId} : q_ent (l_ad x y a f g tk tv tf) cy k_all 14 (q_T 14) = (.inl (cy 3, 300, .inl (fun _ => 0)) : va_E) := by
  simp only [en_14, kz_14, ez_i]
theorem pe_15 {x y : Nat} {a : Nat → Nat} {f : Nat → Nat → Nat} {g tk tv : Nat → Nat} {tf : Nat} {cy : Nat → ClassId} : q_ent (l_ad x y a f g tk tv tf) cy k_all 15 (q_T 15) = (.inr (3, [.ref (f 5 0), .ref (a 4)]) : va_E) := by
  simp only [en_15, la_16, kk_15, la_62, rf_39, rf_62]
theorem pe_16 {x y : Nat} {a : Nat → Nat} {f : Nat → Nat → Nat} {g tk tv : Nat → Nat} {tf : Nat} {cy : Nat → ClassId} : q_ent (l_ad x y a f g tk tv tf) cy k_all 16 (q_T 16) = (.inr (8, [.ref (a 2), .ref (f 5 1), .ref (f 5 2), .ref (f 5 3), .int 0, .int 0]) : va_E) := by
  simp only [en_16, la_13, la_17, la_18, la_19, kz_16, ez_i]
theorem pe_17 {x y : Nat} {a : Nat → Nat} {f : Nat → Nat → Nat} {g tk tv : Nat → Nat} {tf : Nat} {cy : Nat → ClassId} : q_ent (l_ad x y a f g tk tv tf) cy k_all 17 (q_T 17) = (.inl (cy 0, 301, .inl (fun _ => 0)) : va_E) := by
  simp only [en_17, kz_17, ez_i]
theorem pe_18 {x y : Nat} {a : Nat → Nat} {f : Nat → Nat → Nat} {g tk tv : Nat → Nat} {tf : Nat} {cy : Nat → ClassId} : q_ent (l_ad x y a f g tk tv tf) cy k_all 18 (q_T 18) = (.inl (cy 0, 301, .inl (fun _ => 0)) : va_E) := by
  simp only [en_18, kz_18, ez_i]
theorem pe_19 {x y : Nat} {a : Nat → Nat} {f : Nat → Nat → Nat} {g tk tv : Nat → Nat} {tf : Nat} {cy : Nat → ClassId} : q_ent (l_ad x y a f g tk tv tf) cy k_all 19 (q_T 19) = (.inl (cy 0, 301, .inl (fun _ => 0)) : va_E) := by
  simp only [en_19, kz_19, ez_i]
theorem pe_20 {x y : Nat} {a : Nat → Nat} {f : Nat → Nat → Nat} {g tk tv : Nat → Nat} {tf : Nat} {cy : Nat → ClassId} : q_ent (l_ad x y a f g tk tv tf) cy k_all 20 (q_T 20) = (.inr (9, [.ref (a 0), .ref (f 6 13), .ref (f 6 0), .ref (f 6 1), .ref (f 6 2), .ref (a 3), .int 0]) : va_E) := by
  simp only [en_20, la_1, la_34, la_21, la_22, la_23, kk_20, kk_20_5, kk_20_6, la_39, ez_i, rf_39, rf_62]
theorem pe_21 {x y : Nat} {a : Nat → Nat} {f : Nat → Nat → Nat} {g tk tv : Nat → Nat} {tf : Nat} {cy : Nat → ClassId} : q_ent (l_ad x y a f g tk tv tf) cy k_all 21 (q_T 21) = (.inl (cy 0, 10, .inl (fun j => Int32.ofInt (k_W 21 j))) : va_E) := by
  simp only [en_21, kk_21]
theorem pe_22 {x y : Nat} {a : Nat → Nat} {f : Nat → Nat → Nat} {g tk tv : Nat → Nat} {tf : Nat} {cy : Nat → ClassId} : q_ent (l_ad x y a f g tk tv tf) cy k_all 22 (q_T 22) = (.inl (cy 0, 10, .inl (fun _ => 0)) : va_E) := by
  simp only [en_22, kk_22, k0_22, ez_i, ez_l]
theorem pe_23 {x y : Nat} {a : Nat → Nat} {f : Nat → Nat → Nat} {g tk tv : Nat → Nat} {tf : Nat} {cy : Nat → ClassId} : q_ent (l_ad x y a f g tk tv tf) cy k_all 23 (q_T 23) = (.inl (cy 5, 10, .inr (.inr (.inr (.inr (fun j => q_rf (l_ad x y a f g tk tv tf) (24 + (j : Int))))))) : va_E) := by
  simp only [en_23]
theorem pe_24 {x y : Nat} {a : Nat → Nat} {f : Nat → Nat → Nat} {g tk tv : Nat → Nat} {tf : Nat} {cy : Nat → ClassId} : q_ent (l_ad x y a f g tk tv tf) cy k_all 24 (q_T 24) = (.inl (cy 0, 196, .inl (fun j => Int32.ofInt (k_W 24 j))) : va_E) := by
  simp only [en_24, kk_24]
theorem pe_25 {x y : Nat} {a : Nat → Nat} {f : Nat → Nat → Nat} {g tk tv : Nat → Nat} {tf : Nat} {cy : Nat → ClassId} : q_ent (l_ad x y a f g tk tv tf) cy k_all 25 (q_T 25) = (.inl (cy 0, 196, .inl (fun j => Int32.ofInt (k_W 25 j))) : va_E) := by
  simp only [en_25, kk_25]
theorem pe_26 {x y : Nat} {a : Nat → Nat} {f : Nat → Nat → Nat} {g tk tv : Nat → Nat} {tf : Nat} {cy : Nat → ClassId} : q_ent (l_ad x y a f g tk tv tf) cy k_all 26 (q_T 26) = (.inl (cy 0, 196, .inl (fun j => Int32.ofInt (k_W 26 j))) : va_E) := by
  simp only [en_26, kk_26]
theorem pe_27 {x y : Nat} {a : Nat → Nat} {f : Nat → Nat → Nat} {g tk tv : Nat → Nat} {tf : Nat} {cy : Nat → ClassId} : q_ent (l_ad x y a f g tk tv tf) cy k_all 27 (q_T 27) = (.inl (cy 0, 196, .inl (fun j => Int32.ofInt (k_W 27 j))) : va_E) := by
  simp only [en_27, kk_27]
theorem pe_28 {x y : Nat} {a : Nat → Nat} {f : Nat → Nat → Nat} {g tk tv : Nat → Nat} {tf : Nat} {cy : Nat → ClassId} : q_ent (l_ad x y a f g tk tv tf) cy k_all 28 (q_T 28) = (.inl (cy 0, 196, .inl (fun j => Int32.ofInt (k_W 28 j))) : va_E) := by
  simp only [en_28, kk_28]
theorem pe_29 {x y : Nat} {a : Nat → Nat} {f : Nat → Nat → Nat} {g tk tv : Nat → Nat} {tf : Nat} {cy : Nat → ClassId} : q_ent (l_ad x y a f g tk tv tf) cy k_all 29 (q_T 29) = (.inl (cy 0, 196, .inl (fun j => Int32.ofInt (k_W 29 j))) : va_E) := by
  simp only [en_29, kk_29]
theorem pe_30 {x y : Nat} {a : Nat → Nat} {f : Nat → Nat → Nat} {g tk tv : Nat → Nat} {tf : Nat} {cy : Nat → ClassId} : q_ent (l_ad x y a f g tk tv tf) cy k_all 30 (q_T 30) = (.inl (cy 0, 196, .inl (fun j => Int32.ofInt (k_W 30 j))) : va_E) := by
  simp only [en_30, kk_30]
theorem pe_31 {x y : Nat} {a : Nat → Nat} {f : Nat → Nat → Nat} {g tk tv : Nat → Nat} {tf : Nat} {cy : Nat → ClassId} : q_ent (l_ad x y a f g tk tv tf) cy k_all 31 (q_T 31) = (.inl (cy 0, 196, .inl (fun j => Int32.ofInt (k_W 31 j))) : va_E) := by
  simp only [en_31, kk_31]
theorem pe_32 {x y : Nat} {a : Nat → Nat} {f : Nat → Nat → Nat} {g tk tv : Nat → Nat} {tf : Nat} {cy : Nat → ClassId} : q_ent (l_ad x y a f g tk tv tf) cy k_all 32 (q_T 32) = (.inl (cy 0, 196, .inl (fun j => Int32.ofInt (k_W 32 j))) : va_E) := by
  simp only [en_32, kk_32]
theorem pe_33 {x y : Nat} {a : Nat → Nat} {f : Nat → Nat → Nat} {g tk tv : Nat → Nat} {tf : Nat} {cy : Nat → ClassId} : q_ent (l_ad x y a f g tk tv tf) cy k_all 33 (q_T 33) = (.inl (cy 0, 196, .inl (fun j => Int32.ofInt (k_W 33 j))) : va_E) := by
  simp only [en_33, kk_33]
theorem pe_34 {x y : Nat} {a : Nat → Nat} {f : Nat → Nat → Nat} {g tk tv : Nat → Nat} {tf : Nat} {cy : Nat → ClassId} : q_ent (l_ad x y a f g tk tv tf) cy k_all 34 (q_T 34) = (.inr (1, [.ref (a 0), .ref (a 1), .ref (f 6 2), .ref (f 6 14), .ref (f 6 15), .ref (f 6 16), .ref (f 6 17)]) : va_E) := by
  simp only [en_34, la_1, la_2, la_23, la_35, la_36, la_37, la_38]
theorem pe_35 {x y : Nat} {a : Nat → Nat} {f : Nat → Nat → Nat} {g tk tv : Nat → Nat} {tf : Nat} {cy : Nat → ClassId} : q_ent (l_ad x y a f g tk tv tf) cy k_all 35 (q_T 35) = (.inr (6, [.long 0, .int 0, .int 0, .int 0]) : va_E) := by
  simp only [en_35, kk_35, k0_35_0, k0_35_1, k0_35_2, k0_35_3, ez_i, ez_l]
theorem pe_36 {x y : Nat} {a : Nat → Nat} {f : Nat → Nat → Nat} {g tk tv : Nat → Nat} {tf : Nat} {cy : Nat → ClassId} : q_ent (l_ad x y a f g tk tv tf) cy k_all 36 (q_T 36) = (.inl (cy 0, 4, .inl (fun j => Int32.ofInt (k_V 36 j))) : va_E) := by
  simp only [en_36, kk_36, k0_36]
theorem pe_37 {x y : Nat} {a : Nat → Nat} {f : Nat → Nat → Nat} {g tk tv : Nat → Nat} {tf : Nat} {cy : Nat → ClassId} : q_ent (l_ad x y a f g tk tv tf) cy k_all 37 (q_T 37) = (.inl (cy 0, 196, .inl (fun _ => 0)) : va_E) := by
  simp only [en_37, kk_37, k0_37, ez_i, ez_l]
theorem pe_38 {x y : Nat} {a : Nat → Nat} {f : Nat → Nat → Nat} {g tk tv : Nat → Nat} {tf : Nat} {cy : Nat → ClassId} : q_ent (l_ad x y a f g tk tv tf) cy k_all 38 (q_T 38) = (.inl (cy 2, 196, .inl (fun _ => 0)) : va_E) := by
  simp only [en_38, kk_38, k0_38, ez_i, ez_l]
theorem pe_39 {x y : Nat} {a : Nat → Nat} {f : Nat → Nat → Nat} {g tk tv : Nat → Nat} {tf : Nat} {cy : Nat → ClassId} : q_ent (l_ad x y a f g tk tv tf) cy k_all 39 (q_T 39) = (.inr (2, [.ref (f 3 0), .ref (f 3 1), .int (Int32.ofInt ((k_P 39) 39 2))]) : va_E) := by
  simp only [en_39, la_40, la_41, kk_39, ez_i, ez_l]
theorem pe_40 {x y : Nat} {a : Nat → Nat} {f : Nat → Nat → Nat} {g tk tv : Nat → Nat} {tf : Nat} {cy : Nat → ClassId} : q_ent (l_ad x y a f g tk tv tf) cy k_all 40 (q_T 40) = (.inl (cy 4, 10, .inr (.inr (.inr (.inr (fun j => q_rf (l_ad x y a f g tk tv tf) (42 + (j : Int))))))) : va_E) := by
  simp only [en_40]
theorem pe_41 {x y : Nat} {a : Nat → Nat} {f : Nat → Nat → Nat} {g tk tv : Nat → Nat} {tf : Nat} {cy : Nat → ClassId} : q_ent (l_ad x y a f g tk tv tf) cy k_all 41 (q_T 41) = (.inl (cy 0, 26, .inl (fun j => Int32.ofInt ((k_P 39) 41 j))) : va_E) := by
  simp only [en_41, kk_41]
theorem pe_42 {x y : Nat} {a : Nat → Nat} {f : Nat → Nat → Nat} {g tk tv : Nat → Nat} {tf : Nat} {cy : Nat → ClassId} : q_ent (l_ad x y a f g tk tv tf) cy k_all 42 (q_T 42) = (.inr (4, [.ref (f 3 3), .int 0, .int 0, .int 0, .int 0]) : va_E) := by
  simp only [en_42, la_52, kk_42, k0_42_1, k0_42_2, k0_42_3, k0_42_4, ez_i, ez_l]
theorem pe_43 {x y : Nat} {a : Nat → Nat} {f : Nat → Nat → Nat} {g tk tv : Nat → Nat} {tf : Nat} {cy : Nat → ClassId} : q_ent (l_ad x y a f g tk tv tf) cy k_all 43 (q_T 43) = (.inr (4, [.ref (f 3 5), .int 0, .int 0, .int 0, .int 0]) : va_E) := by
  simp only [en_43, la_53, kk_43, k0_43_1, k0_43_2, k0_43_3, k0_43_4, ez_i, ez_l]
theorem pe_44 {x y : Nat} {a : Nat → Nat} {f : Nat → Nat → Nat} {g tk tv : Nat → Nat} {tf : Nat} {cy : Nat → ClassId} : q_ent (l_ad x y a f g tk tv tf) cy k_all 44 (q_T 44) = (.inr (4, [.ref (f 3 7), .int 0, .int 0, .int 0, .int 0]) : va_E) := by
  simp only [en_44, la_54, kk_44, k0_44_1, k0_44_2, k0_44_3, k0_44_4, ez_i, ez_l]
theorem pe_45 {x y : Nat} {a : Nat → Nat} {f : Nat → Nat → Nat} {g tk tv : Nat → Nat} {tf : Nat} {cy : Nat → ClassId} : q_ent (l_ad x y a f g tk tv tf) cy k_all 45 (q_T 45) = (.inr (4, [.ref (f 3 9), .int 0, .int 0, .int 0, .int 0]) : va_E) := by
  simp only [en_45, la_55, kk_45, k0_45_1, k0_45_2, k0_45_3, k0_45_4, ez_i, ez_l]
theorem pe_46 {x y : Nat} {a : Nat → Nat} {f : Nat → Nat → Nat} {g tk tv : Nat → Nat} {tf : Nat} {cy : Nat → ClassId} : q_ent (l_ad x y a f g tk tv tf) cy k_all 46 (q_T 46) = (.inr (4, [.ref (f 3 11), .int 0, .int 0, .int 0, .int 0]) : va_E) := by
  simp only [en_46, la_56, kk_46, k0_46_1, k0_46_2, k0_46_3, k0_46_4, ez_i, ez_l]
theorem pe_47 {x y : Nat} {a : Nat → Nat} {f : Nat → Nat → Nat} {g tk tv : Nat → Nat} {tf : Nat} {cy : Nat → ClassId} : q_ent (l_ad x y a f g tk tv tf) cy k_all 47 (q_T 47) = (.inr (4, [.ref (f 3 13), .int 0, .int 0, .int 0, .int 0]) : va_E) := by
  simp only [en_47, la_57, kk_47, k0_47_1, k0_47_2, k0_47_3, k0_47_4, ez_i, ez_l]
theorem pe_48 {x y : Nat} {a : Nat → Nat} {f : Nat → Nat → Nat} {g tk tv : Nat → Nat} {tf : Nat} {cy : Nat → ClassId} : q_ent (l_ad x y a f g tk tv tf) cy k_all 48 (q_T 48) = (.inr (4, [.ref (f 3 15), .int 0, .int 0, .int 0, .int 0]) : va_E) := by
  simp only [en_48, la_58, kk_48, k0_48_1, k0_48_2, k0_48_3, k0_48_4, ez_i, ez_l]
theorem pe_49 {x y : Nat} {a : Nat → Nat} {f : Nat → Nat → Nat} {g tk tv : Nat → Nat} {tf : Nat} {cy : Nat → ClassId} : q_ent (l_ad x y a f g tk tv tf) cy k_all 49 (q_T 49) = (.inr (4, [.ref (f 3 17), .int 0, .int 0, .int 0, .int 0]) : va_E) := by
  simp only [en_49, la_59, kk_49, k0_49_1, k0_49_2, k0_49_3, k0_49_4, ez_i, ez_l]
theorem pe_50 {x y : Nat} {a : Nat → Nat} {f : Nat → Nat → Nat} {g tk tv : Nat → Nat} {tf : Nat} {cy : Nat → ClassId} : q_ent (l_ad x y a f g tk tv tf) cy k_all 50 (q_T 50) = (.inr (4, [.ref (f 3 19), .int 0, .int 0, .int 0, .int 0]) : va_E) := by
  simp only [en_50, la_60, kk_50, k0_50_1, k0_50_2, k0_50_3, k0_50_4, ez_i, ez_l]
theorem pe_51 {x y : Nat} {a : Nat → Nat} {f : Nat → Nat → Nat} {g tk tv : Nat → Nat} {tf : Nat} {cy : Nat → ClassId} : q_ent (l_ad x y a f g tk tv tf) cy k_all 51 (q_T 51) = (.inr (4, [.ref (f 3 21), .int 0, .int 0, .int 0, .int 0]) : va_E) := by
  simp only [en_51, la_61, kk_51, k0_51_1, k0_51_2, k0_51_3, k0_51_4, ez_i, ez_l]
theorem pe_52 {x y : Nat} {a : Nat → Nat} {f : Nat → Nat → Nat} {g tk tv : Nat → Nat} {tf : Nat} {cy : Nat → ClassId} : q_ent (l_ad x y a f g tk tv tf) cy k_all 52 (q_T 52) = (.inl (cy 0, 3, .inl (fun _ => 0)) : va_E) := by
  simp only [en_52, kk_52, k0_52, ez_i, ez_l]
theorem pe_53 {x y : Nat} {a : Nat → Nat} {f : Nat → Nat → Nat} {g tk tv : Nat → Nat} {tf : Nat} {cy : Nat → ClassId} : q_ent (l_ad x y a f g tk tv tf) cy k_all 53 (q_T 53) = (.inl (cy 0, 3, .inl (fun _ => 0)) : va_E) := by
  simp only [en_53, kk_53, k0_53, ez_i, ez_l]
theorem pe_54 {x y : Nat} {a : Nat → Nat} {f : Nat → Nat → Nat} {g tk tv : Nat → Nat} {tf : Nat} {cy : Nat → ClassId} : q_ent (l_ad x y a f g tk tv tf) cy k_all 54 (q_T 54) = (.inl (cy 0, 3, .inl (fun _ => 0)) : va_E) := by
  simp only [en_54, kk_54, k0_54, ez_i, ez_l]
theorem pe_55 {x y : Nat} {a : Nat → Nat} {f : Nat → Nat → Nat} {g tk tv : Nat → Nat} {tf : Nat} {cy : Nat → ClassId} : q_ent (l_ad x y a f g tk tv tf) cy k_all 55 (q_T 55) = (.inl (cy 0, 3, .inl (fun _ => 0)) : va_E) := by
  simp only [en_55, kk_55, k0_55, ez_i, ez_l]
theorem pe_56 {x y : Nat} {a : Nat → Nat} {f : Nat → Nat → Nat} {g tk tv : Nat → Nat} {tf : Nat} {cy : Nat → ClassId} : q_ent (l_ad x y a f g tk tv tf) cy k_all 56 (q_T 56) = (.inl (cy 0, 3, .inl (fun _ => 0)) : va_E) := by
  simp only [en_56, kk_56, k0_56, ez_i, ez_l]
theorem pe_57 {x y : Nat} {a : Nat → Nat} {f : Nat → Nat → Nat} {g tk tv : Nat → Nat} {tf : Nat} {cy : Nat → ClassId} : q_ent (l_ad x y a f g tk tv tf) cy k_all 57 (q_T 57) = (.inl (cy 0, 3, .inl (fun _ => 0)) : va_E) := by
  simp only [en_57, kk_57, k0_57, ez_i, ez_l]
theorem pe_58 {x y : Nat} {a : Nat → Nat} {f : Nat → Nat → Nat} {g tk tv : Nat → Nat} {tf : Nat} {cy : Nat → ClassId} : q_ent (l_ad x y a f g tk tv tf) cy k_all 58 (q_T 58) = (.inl (cy 0, 3, .inl (fun _ => 0)) : va_E) := by
  simp only [en_58, kk_58, k0_58, ez_i, ez_l]
theorem pe_59 {x y : Nat} {a : Nat → Nat} {f : Nat → Nat → Nat} {g tk tv : Nat → Nat} {tf : Nat} {cy : Nat → ClassId} : q_ent (l_ad x y a f g tk tv tf) cy k_all 59 (q_T 59) = (.inl (cy 0, 3, .inl (fun _ => 0)) : va_E) := by
  simp only [en_59, kk_59, k0_59, ez_i, ez_l]
theorem pe_60 {x y : Nat} {a : Nat → Nat} {f : Nat → Nat → Nat} {g tk tv : Nat → Nat} {tf : Nat} {cy : Nat → ClassId} : q_ent (l_ad x y a f g tk tv tf) cy k_all 60 (q_T 60) = (.inl (cy 0, 3, .inl (fun _ => 0)) : va_E) := by
  simp only [en_60, kk_60, k0_60, ez_i, ez_l]
theorem pe_61 {x y : Nat} {a : Nat → Nat} {f : Nat → Nat → Nat} {g tk tv : Nat → Nat} {tf : Nat} {cy : Nat → ClassId} : q_ent (l_ad x y a f g tk tv tf) cy k_all 61 (q_T 61) = (.inl (cy 0, 3, .inl (fun _ => 0)) : va_E) := by
  simp only [en_61, kk_61, k0_61, ez_i, ez_l]
theorem pe_62 {x y : Nat} {a : Nat → Nat} {f : Nat → Nat → Nat} {g tk tv : Nat → Nat} {tf : Nat} {cy : Nat → ClassId} : q_ent (l_ad x y a f g tk tv tf) cy k_all 62 (q_T 62) = (.inr (2, [.ref (f 4 0), .ref (f 4 1), .int (Int32.ofInt ((k_P 62) 62 2))]) : va_E) := by
  simp only [en_62, la_63, la_64, kk_62, ez_i, ez_l]
theorem pe_63 {x y : Nat} {a : Nat → Nat} {f : Nat → Nat → Nat} {g tk tv : Nat → Nat} {tf : Nat} {cy : Nat → ClassId} : q_ent (l_ad x y a f g tk tv tf) cy k_all 63 (q_T 63) = (.inl (cy 4, 10, .inr (.inr (.inr (.inr (fun j => q_rf (l_ad x y a f g tk tv tf) (65 + (j : Int))))))) : va_E) := by
  simp only [en_63]
theorem pe_64 {x y : Nat} {a : Nat → Nat} {f : Nat → Nat → Nat} {g tk tv : Nat → Nat} {tf : Nat} {cy : Nat → ClassId} : q_ent (l_ad x y a f g tk tv tf) cy k_all 64 (q_T 64) = (.inl (cy 0, 26, .inl (fun j => Int32.ofInt ((k_P 62) 64 j))) : va_E) := by
  simp only [en_64, kk_64]
theorem pe_65 {x y : Nat} {a : Nat → Nat} {f : Nat → Nat → Nat} {g tk tv : Nat → Nat} {tf : Nat} {cy : Nat → ClassId} : q_ent (l_ad x y a f g tk tv tf) cy k_all 65 (q_T 65) = (.inr (4, [.ref (f 4 3), .int 0, .int 0, .int 0, .int 0]) : va_E) := by
  simp only [en_65, la_75, kk_65, k0_65_1, k0_65_2, k0_65_3, k0_65_4, ez_i, ez_l]
theorem pe_66 {x y : Nat} {a : Nat → Nat} {f : Nat → Nat → Nat} {g tk tv : Nat → Nat} {tf : Nat} {cy : Nat → ClassId} : q_ent (l_ad x y a f g tk tv tf) cy k_all 66 (q_T 66) = (.inr (4, [.ref (f 4 5), .int 0, .int 0, .int 0, .int 0]) : va_E) := by
  simp only [en_66, la_76, kk_66, k0_66_1, k0_66_2, k0_66_3, k0_66_4, ez_i, ez_l]
theorem pe_67 {x y : Nat} {a : Nat → Nat} {f : Nat → Nat → Nat} {g tk tv : Nat → Nat} {tf : Nat} {cy : Nat → ClassId} : q_ent (l_ad x y a f g tk tv tf) cy k_all 67 (q_T 67) = (.inr (4, [.ref (f 4 7), .int 0, .int 0, .int 0, .int 0]) : va_E) := by
  simp only [en_67, la_77, kk_67, k0_67_1, k0_67_2, k0_67_3, k0_67_4, ez_i, ez_l]
theorem pe_68 {x y : Nat} {a : Nat → Nat} {f : Nat → Nat → Nat} {g tk tv : Nat → Nat} {tf : Nat} {cy : Nat → ClassId} : q_ent (l_ad x y a f g tk tv tf) cy k_all 68 (q_T 68) = (.inr (4, [.ref (f 4 9), .int 0, .int 0, .int 0, .int 0]) : va_E) := by
  simp only [en_68, la_78, kk_68, k0_68_1, k0_68_2, k0_68_3, k0_68_4, ez_i, ez_l]
theorem pe_69 {x y : Nat} {a : Nat → Nat} {f : Nat → Nat → Nat} {g tk tv : Nat → Nat} {tf : Nat} {cy : Nat → ClassId} : q_ent (l_ad x y a f g tk tv tf) cy k_all 69 (q_T 69) = (.inr (4, [.ref (f 4 11), .int 0, .int 0, .int 0, .int 0]) : va_E) := by
  simp only [en_69, la_79, kk_69, k0_69_1, k0_69_2, k0_69_3, k0_69_4, ez_i, ez_l]
theorem pe_70 {x y : Nat} {a : Nat → Nat} {f : Nat → Nat → Nat} {g tk tv : Nat → Nat} {tf : Nat} {cy : Nat → ClassId} : q_ent (l_ad x y a f g tk tv tf) cy k_all 70 (q_T 70) = (.inr (4, [.ref (f 4 13), .int 0, .int 0, .int 0, .int 0]) : va_E) := by
  simp only [en_70, la_80, kk_70, k0_70_1, k0_70_2, k0_70_3, k0_70_4, ez_i, ez_l]
theorem pe_71 {x y : Nat} {a : Nat → Nat} {f : Nat → Nat → Nat} {g tk tv : Nat → Nat} {tf : Nat} {cy : Nat → ClassId} : q_ent (l_ad x y a f g tk tv tf) cy k_all 71 (q_T 71) = (.inr (4, [.ref (f 4 15), .int 0, .int 0, .int 0, .int 0]) : va_E) := by
  simp only [en_71, la_81, kk_71, k0_71_1, k0_71_2, k0_71_3, k0_71_4, ez_i, ez_l]
theorem pe_72 {x y : Nat} {a : Nat → Nat} {f : Nat → Nat → Nat} {g tk tv : Nat → Nat} {tf : Nat} {cy : Nat → ClassId} : q_ent (l_ad x y a f g tk tv tf) cy k_all 72 (q_T 72) = (.inr (4, [.ref (f 4 17), .int 0, .int 0, .int 0, .int 0]) : va_E) := by
  simp only [en_72, la_82, kk_72, k0_72_1, k0_72_2, k0_72_3, k0_72_4, ez_i, ez_l]
theorem pe_73 {x y : Nat} {a : Nat → Nat} {f : Nat → Nat → Nat} {g tk tv : Nat → Nat} {tf : Nat} {cy : Nat → ClassId} : q_ent (l_ad x y a f g tk tv tf) cy k_all 73 (q_T 73) = (.inr (4, [.ref (f 4 19), .int 0, .int 0, .int 0, .int 0]) : va_E) := by
  simp only [en_73, la_83, kk_73, k0_73_1, k0_73_2, k0_73_3, k0_73_4, ez_i, ez_l]
theorem pe_74 {x y : Nat} {a : Nat → Nat} {f : Nat → Nat → Nat} {g tk tv : Nat → Nat} {tf : Nat} {cy : Nat → ClassId} : q_ent (l_ad x y a f g tk tv tf) cy k_all 74 (q_T 74) = (.inr (4, [.ref (f 4 21), .int 0, .int 0, .int 0, .int 0]) : va_E) := by
  simp only [en_74, la_84, kk_74, k0_74_1, k0_74_2, k0_74_3, k0_74_4, ez_i, ez_l]
theorem pe_75 {x y : Nat} {a : Nat → Nat} {f : Nat → Nat → Nat} {g tk tv : Nat → Nat} {tf : Nat} {cy : Nat → ClassId} : q_ent (l_ad x y a f g tk tv tf) cy k_all 75 (q_T 75) = (.inl (cy 0, 3, .inl (fun _ => 0)) : va_E) := by
  simp only [en_75, kk_75, k0_75, ez_i, ez_l]
theorem pe_76 {x y : Nat} {a : Nat → Nat} {f : Nat → Nat → Nat} {g tk tv : Nat → Nat} {tf : Nat} {cy : Nat → ClassId} : q_ent (l_ad x y a f g tk tv tf) cy k_all 76 (q_T 76) = (.inl (cy 0, 3, .inl (fun _ => 0)) : va_E) := by
  simp only [en_76, kk_76, k0_76, ez_i, ez_l]
theorem pe_77 {x y : Nat} {a : Nat → Nat} {f : Nat → Nat → Nat} {g tk tv : Nat → Nat} {tf : Nat} {cy : Nat → ClassId} : q_ent (l_ad x y a f g tk tv tf) cy k_all 77 (q_T 77) = (.inl (cy 0, 3, .inl (fun _ => 0)) : va_E) := by
  simp only [en_77, kk_77, k0_77, ez_i, ez_l]
theorem pe_78 {x y : Nat} {a : Nat → Nat} {f : Nat → Nat → Nat} {g tk tv : Nat → Nat} {tf : Nat} {cy : Nat → ClassId} : q_ent (l_ad x y a f g tk tv tf) cy k_all 78 (q_T 78) = (.inl (cy 0, 3, .inl (fun _ => 0)) : va_E) := by
  simp only [en_78, kk_78, k0_78, ez_i, ez_l]
theorem pe_79 {x y : Nat} {a : Nat → Nat} {f : Nat → Nat → Nat} {g tk tv : Nat → Nat} {tf : Nat} {cy : Nat → ClassId} : q_ent (l_ad x y a f g tk tv tf) cy k_all 79 (q_T 79) = (.inl (cy 0, 3, .inl (fun _ => 0)) : va_E) := by
  simp only [en_79, kk_79, k0_79, ez_i, ez_l]
theorem pe_80 {x y : Nat} {a : Nat → Nat} {f : Nat → Nat → Nat} {g tk tv : Nat → Nat} {tf : Nat} {cy : Nat → ClassId} : q_ent (l_ad x y a f g tk tv tf) cy k_all 80 (q_T 80) = (.inl (cy 0, 3, .inl (fun _ => 0)) : va_E) := by
  simp only [en_80, kk_80, k0_80, ez_i, ez_l]
theorem pe_81 {x y : Nat} {a : Nat → Nat} {f : Nat → Nat → Nat} {g tk tv : Nat → Nat} {tf : Nat} {cy : Nat → ClassId} : q_ent (l_ad x y a f g tk tv tf) cy k_all 81 (q_T 81) = (.inl (cy 0, 3, .inl (fun _ => 0)) : va_E) := by
  simp only [en_81, kk_81, k0_81, ez_i, ez_l]
theorem pe_82 {x y : Nat} {a : Nat → Nat} {f : Nat → Nat → Nat} {g tk tv : Nat → Nat} {tf : Nat} {cy : Nat → ClassId} : q_ent (l_ad x y a f g tk tv tf) cy k_all 82 (q_T 82) = (.inl (cy 0, 3, .inl (fun _ => 0)) : va_E) := by
  simp only [en_82, kk_82, k0_82, ez_i, ez_l]
theorem pe_83 {x y : Nat} {a : Nat → Nat} {f : Nat → Nat → Nat} {g tk tv : Nat → Nat} {tf : Nat} {cy : Nat → ClassId} : q_ent (l_ad x y a f g tk tv tf) cy k_all 83 (q_T 83) = (.inl (cy 0, 3, .inl (fun _ => 0)) : va_E) := by
  simp only [en_83, kk_83, k0_83, ez_i, ez_l]
theorem pe_84 {x y : Nat} {a : Nat → Nat} {f : Nat → Nat → Nat} {g tk tv : Nat → Nat} {tf : Nat} {cy : Nat → ClassId} : q_ent (l_ad x y a f g tk tv tf) cy k_all 84 (q_T 84) = (.inl (cy 0, 3, .inl (fun _ => 0)) : va_E) := by
  simp only [en_84, kk_84, k0_84, ez_i, ez_l]
theorem pe_85 {x y : Nat} {a : Nat → Nat} {f : Nat → Nat → Nat} {g tk tv : Nat → Nat} {tf : Nat} {cy : Nat → ClassId} : q_ent (l_ad x y a f g tk tv tf) cy k_all 85 (q_T 85) = (.inr (11, [.int (Int32.ofInt (k_M 85 0)), .int (Int32.ofInt (k_M 85 1)), .int (Int32.ofInt (k_M 85 2)), .int (Int32.ofInt (k_M 85 3)), .ref (g 0), .ref (g 1), .ref (g 2), .int (Int32.ofInt (k_M 85 7)), .ref (g 3), .ref (g 4), .ref (g 5), .ref (g 6), .ref (g 7), .ref (g 8), .int (Int32.ofInt (k_M 85 14)), .ref (g 9), .ref (g 10), .int (Int32.ofInt (k_M 85 17)), .long 0, .long 0, .long 0, .ref (g 11), .ref (g 12), .int (Int32.ofInt (k_M 85 23)), .ref (g 13), .ref (g 14), .ref (g 15), .ref (g 16), .ref (g 17), .ref (g 18), .ref (g 19), .int (Int32.ofInt (k_M 85 31)), .int (Int32.ofInt (k_M 85 32)), .int (Int32.ofInt (k_M 85 33)), .int (Int32.ofInt (k_M 85 34)), .long 0, .int (Int32.ofInt (k_M 85 36)), .int 0]) : va_E) := by
  simp only [en_85, la_86, la_87, la_88, la_89, la_90, la_91, la_92, la_93, la_94, la_95, la_96, la_97, la_98, la_99, la_100, la_101, la_102, la_103, la_104, la_105, kk_85, k0_85_18, k0_85_19, k0_85_20, k0_85_35, k0_85_37, ez_i, ez_l]
theorem pe_86 {x y : Nat} {a : Nat → Nat} {f : Nat → Nat → Nat} {g tk tv : Nat → Nat} {tf : Nat} {cy : Nat → ClassId} : q_ent (l_ad x y a f g tk tv tf) cy k_all 86 (q_T 86) = (.inl (cy 0, 576, .inl (fun j => Int32.ofInt (k_M 86 j))) : va_E) := by
  simp only [en_86, kk_86]
theorem pe_87 {x y : Nat} {a : Nat → Nat} {f : Nat → Nat → Nat} {g tk tv : Nat → Nat} {tf : Nat} {cy : Nat → ClassId} : q_ent (l_ad x y a f g tk tv tf) cy k_all 87 (q_T 87) = (.inl (cy 0, 1728, .inl (fun _ => 0)) : va_E) := by
  simp only [en_87, kk_87, k0_87, ez_i, ez_l]
theorem pe_88 {x y : Nat} {a : Nat → Nat} {f : Nat → Nat → Nat} {g tk tv : Nat → Nat} {tf : Nat} {cy : Nat → ClassId} : q_ent (l_ad x y a f g tk tv tf) cy k_all 88 (q_T 88) = (.inl (cy 2, 3, .inl (fun j => Int32.ofInt (k_M 88 j))) : va_E) := by
  simp only [en_88, kk_88]
theorem pe_89 {x y : Nat} {a : Nat → Nat} {f : Nat → Nat → Nat} {g tk tv : Nat → Nat} {tf : Nat} {cy : Nat → ClassId} : q_ent (l_ad x y a f g tk tv tf) cy k_all 89 (q_T 89) = (.inl (cy 0, 10, .inl (fun _ => 0)) : va_E) := by
  simp only [en_89, kk_89, k0_89, ez_i, ez_l]
theorem pe_90 {x y : Nat} {a : Nat → Nat} {f : Nat → Nat → Nat} {g tk tv : Nat → Nat} {tf : Nat} {cy : Nat → ClassId} : q_ent (l_ad x y a f g tk tv tf) cy k_all 90 (q_T 90) = (.inl (cy 0, 10, .inl (fun _ => 0)) : va_E) := by
  simp only [en_90, kk_90, k0_90, ez_i, ez_l]
theorem pe_91 {x y : Nat} {a : Nat → Nat} {f : Nat → Nat → Nat} {g tk tv : Nat → Nat} {tf : Nat} {cy : Nat → ClassId} : q_ent (l_ad x y a f g tk tv tf) cy k_all 91 (q_T 91) = (.inl (cy 0, 10, .inl (fun _ => 0)) : va_E) := by
  simp only [en_91, kk_91, k0_91, ez_i, ez_l]
theorem pe_92 {x y : Nat} {a : Nat → Nat} {f : Nat → Nat → Nat} {g tk tv : Nat → Nat} {tf : Nat} {cy : Nat → ClassId} : q_ent (l_ad x y a f g tk tv tf) cy k_all 92 (q_T 92) = (.inl (cy 0, 30, .inl (fun _ => 0)) : va_E) := by
  simp only [en_92, kk_92, k0_92, ez_i, ez_l]
theorem pe_93 {x y : Nat} {a : Nat → Nat} {f : Nat → Nat → Nat} {g tk tv : Nat → Nat} {tf : Nat} {cy : Nat → ClassId} : q_ent (l_ad x y a f g tk tv tf) cy k_all 93 (q_T 93) = (.inl (cy 0, 10, .inl (fun _ => 0)) : va_E) := by
  simp only [en_93, kk_93, k0_93, ez_i, ez_l]
theorem pe_94 {x y : Nat} {a : Nat → Nat} {f : Nat → Nat → Nat} {g tk tv : Nat → Nat} {tf : Nat} {cy : Nat → ClassId} : q_ent (l_ad x y a f g tk tv tf) cy k_all 94 (q_T 94) = (.inl (cy 2, 90, .inl (fun j => Int32.ofInt (k_M 94 j))) : va_E) := by
  simp only [en_94, kk_94]
theorem pe_95 {x y : Nat} {a : Nat → Nat} {f : Nat → Nat → Nat} {g tk tv : Nat → Nat} {tf : Nat} {cy : Nat → ClassId} : q_ent (l_ad x y a f g tk tv tf) cy k_all 95 (q_T 95) = (.inl (cy 0, 100, .inl (fun _ => 0)) : va_E) := by
  simp only [en_95, kk_95, k0_95, ez_i, ez_l]
theorem pe_96 {x y : Nat} {a : Nat → Nat} {f : Nat → Nat → Nat} {g tk tv : Nat → Nat} {tf : Nat} {cy : Nat → ClassId} : q_ent (l_ad x y a f g tk tv tf) cy k_all 96 (q_T 96) = (.inl (cy 0, 1440, .inl (fun _ => 0)) : va_E) := by
  simp only [en_96, kk_96, k0_96, ez_i, ez_l]
theorem pe_97 {x y : Nat} {a : Nat → Nat} {f : Nat → Nat → Nat} {g tk tv : Nat → Nat} {tf : Nat} {cy : Nat → ClassId} : q_ent (l_ad x y a f g tk tv tf) cy k_all 97 (q_T 97) = (.inl (cy 1, 144, .inr (.inl (fun _ => 0))) : va_E) := by
  simp only [en_97, kk_97, k0_97, ez_i, ez_l]
theorem pe_98 {x y : Nat} {a : Nat → Nat} {f : Nat → Nat → Nat} {g tk tv : Nat → Nat} {tf : Nat} {cy : Nat → ClassId} : q_ent (l_ad x y a f g tk tv tf) cy k_all 98 (q_T 98) = (.inl (cy 0, 144, .inl (fun _ => 0)) : va_E) := by
  simp only [en_98, kk_98, k0_98, ez_i, ez_l]
theorem pe_99 {x y : Nat} {a : Nat → Nat} {f : Nat → Nat → Nat} {g tk tv : Nat → Nat} {tf : Nat} {cy : Nat → ClassId} : q_ent (l_ad x y a f g tk tv tf) cy k_all 99 (q_T 99) = (.inl (cy 0, 10, .inl (fun _ => 0)) : va_E) := by
  simp only [en_99, kk_99, k0_99, ez_i, ez_l]
theorem pe_100 {x y : Nat} {a : Nat → Nat} {f : Nat → Nat → Nat} {g tk tv : Nat → Nat} {tf : Nat} {cy : Nat → ClassId} : q_ent (l_ad x y a f g tk tv tf) cy k_all 100 (q_T 100) = (.inl (cy 0, 10, .inl (fun _ => 0)) : va_E) := by
  simp only [en_100, kk_100, k0_100, ez_i, ez_l]
theorem pe_101 {x y : Nat} {a : Nat → Nat} {f : Nat → Nat → Nat} {g tk tv : Nat → Nat} {tf : Nat} {cy : Nat → ClassId} : q_ent (l_ad x y a f g tk tv tf) cy k_all 101 (q_T 101) = (.inl (cy 0, 10, .inl (fun _ => 0)) : va_E) := by
  simp only [en_101, kk_101, k0_101, ez_i, ez_l]
theorem pe_102 {x y : Nat} {a : Nat → Nat} {f : Nat → Nat → Nat} {g tk tv : Nat → Nat} {tf : Nat} {cy : Nat → ClassId} : q_ent (l_ad x y a f g tk tv tf) cy k_all 102 (q_T 102) = (.inl (cy 0, 30, .inl (fun _ => 0)) : va_E) := by
  simp only [en_102, kk_102, k0_102, ez_i, ez_l]
theorem pe_103 {x y : Nat} {a : Nat → Nat} {f : Nat → Nat → Nat} {g tk tv : Nat → Nat} {tf : Nat} {cy : Nat → ClassId} : q_ent (l_ad x y a f g tk tv tf) cy k_all 103 (q_T 103) = (.inl (cy 0, 10, .inl (fun _ => 0)) : va_E) := by
  simp only [en_103, kk_103, k0_103, ez_i, ez_l]
theorem pe_104 {x y : Nat} {a : Nat → Nat} {f : Nat → Nat → Nat} {g tk tv : Nat → Nat} {tf : Nat} {cy : Nat → ClassId} : q_ent (l_ad x y a f g tk tv tf) cy k_all 104 (q_T 104) = (.inl (cy 0, 26, .inl (fun j => Int32.ofInt (k_M 104 j))) : va_E) := by
  simp only [en_104, kk_104]
theorem pe_105 {x y : Nat} {a : Nat → Nat} {f : Nat → Nat → Nat} {g tk tv : Nat → Nat} {tf : Nat} {cy : Nat → ClassId} : q_ent (l_ad x y a f g tk tv tf) cy k_all 105 (q_T 105) = (.inl (cy 0, 300, .inl (fun _ => 0)) : va_E) := by
  simp only [en_105, kk_105, k0_105, ez_i, ez_l]
end
section
theorem qN_lit : q_N = [0, 1, 2, 3, 4, 5, 6, 7, 8, 9, 10, 11, 12, 13, 14, 15, 16, 17, 18, 19, 20, 21, 22, 23, 24, 25, 26, 27, 28, 29, 30, 31, 32, 33, 34, 35, 36, 37, 38, 39, 40, 41, 42, 43, 44, 45, 46, 47, 48, 49, 50, 51, 52, 53, 54, 55, 56, 57, 58, 59, 60, 61, 62, 63, 64, 65, 66, 67, 68, 69, 70, 71, 72, 73, 74, 75, 76, 77, 78, 79, 80, 81, 82, 83, 84, 85, 86, 87, 88, 89, 90, 91, 92, 93, 94, 95, 96, 97, 98, 99, 100, 101, 102, 103, 104, 105] := by decide +kernel
set_option maxHeartbeats 1000000 in
theorem wb_0 {x y : Nat} {a : Nat → Nat} {f : Nat → Nat → Nat} {g tk tv : Nat → Nat} {tf : Nat} {cy : Nat → ClassId} : ([0, 1, 2, 3, 4, 5, 6, 7, 8, 9, 10, 11] : List Int).map (fun z => (l_ad x y a f g tk tv tf z, q_ent (l_ad x y a f g tk tv tf) cy k_all z (q_T z))) = ([(x, .inr (10, [.ref (a 0), .ref (a 1), .ref (a 2), .ref (a 5), .ref (a 6), .ref (a 3), .ref (a 4), .int (-1), .int 0])), ((a 0), .inr (0, [.int (Int32.ofInt (k_G 1 0)), .int (Int32.ofInt (k_G 1 1)), .int (Int32.ofInt (k_G 1 2))])), ((a 1), .inr (5, [.ref (f 1 0), .ref (f 1 5), .ref (f 1 9)])), ((f 1 0), .inl (cy 5, 4, .inr (.inr (.inr (.inr (fun j => q_rf (l_ad x y a f g tk tv tf) (4 + (j : Int)))))))), ((f 1 1), .inl (cy 0, 196, .inl (fun j => Int32.ofInt (k_S 4 j)))), ((f 1 2), .inl (cy 0, 196, .inl (fun j => Int32.ofInt (k_S 5 j)))), ((f 1 3), .inl (cy 0, 196, .inl (fun j => Int32.ofInt (k_S 6 j)))), ((f 1 4), .inl (cy 0, 196, .inl (fun j => Int32.ofInt (k_S 7 j)))), ((f 1 5), .inl (cy 5, 3, .inr (.inr (.inr (.inr (fun j => q_rf (l_ad x y a f g tk tv tf) (9 + (j : Int)))))))), ((f 1 6), .inl (cy 0, 784, .inl (fun j => Int32.ofInt (k_S 9 j)))), ((f 1 7), .inl (cy 0, 784, .inl (fun j => Int32.ofInt (k_S 10 j)))), ((f 1 8), .inl (cy 0, 784, .inl (fun j => Int32.ofInt (k_S 11 j))))] : va_W) := by
  simp only [List.map_cons, List.map_nil, pe_0, la_0, pe_1, la_1, pe_2, la_2, pe_3, la_3, pe_4, la_4, pe_5, la_5, pe_6, la_6, pe_7, la_7, pe_8, la_8, pe_9, la_9, pe_10, la_10, pe_11, la_11]
set_option maxHeartbeats 1000000 in
theorem wb_1 {x y : Nat} {a : Nat → Nat} {f : Nat → Nat → Nat} {g tk tv : Nat → Nat} {tf : Nat} {cy : Nat → ClassId} : ([12, 13, 14, 15, 16, 17, 18, 19, 20, 21, 22, 23] : List Int).map (fun z => (l_ad x y a f g tk tv tf z, q_ent (l_ad x y a f g tk tv tf) cy k_all z (q_T z))) = ([((f 1 9), .inl (cy 2, 3, .inl (fun j => Int32.ofInt (k_S 12 j)))), ((a 2), .inr (7, [.ref (f 2 0), .int 0])), ((f 2 0), .inl (cy 3, 300, .inl (fun _ => 0))), ((a 5), .inr (3, [.ref (f 5 0), .ref (a 4)])), ((f 5 0), .inr (8, [.ref (a 2), .ref (f 5 1), .ref (f 5 2), .ref (f 5 3), .int 0, .int 0])), ((f 5 1), .inl (cy 0, 301, .inl (fun _ => 0))), ((f 5 2), .inl (cy 0, 301, .inl (fun _ => 0))), ((f 5 3), .inl (cy 0, 301, .inl (fun _ => 0))), ((a 6), .inr (9, [.ref (a 0), .ref (f 6 13), .ref (f 6 0), .ref (f 6 1), .ref (f 6 2), .ref (a 3), .int 0])), ((f 6 0), .inl (cy 0, 10, .inl (fun j => Int32.ofInt (k_W 21 j)))), ((f 6 1), .inl (cy 0, 10, .inl (fun _ => 0))), ((f 6 2), .inl (cy 5, 10, .inr (.inr (.inr (.inr (fun j => q_rf (l_ad x y a f g tk tv tf) (24 + (j : Int))))))))] : va_W) := by
  simp only [List.map_cons, List.map_nil, pe_12, la_12, pe_13, la_13, pe_14, la_14, pe_15, la_15, pe_16, la_16, pe_17, la_17, pe_18, la_18, pe_19, la_19, pe_20, la_20, pe_21, la_21, pe_22, la_22, pe_23, la_23]
set_option maxHeartbeats 1000000 in
theorem wb_2 {x y : Nat} {a : Nat → Nat} {f : Nat → Nat → Nat} {g tk tv : Nat → Nat} {tf : Nat} {cy : Nat → ClassId} : ([24, 25, 26, 27, 28, 29, 30, 31, 32, 33, 34, 35] : List Int).map (fun z => (l_ad x y a f g tk tv tf z, q_ent (l_ad x y a f g tk tv tf) cy k_all z (q_T z))) = ([((f 6 3), .inl (cy 0, 196, .inl (fun j => Int32.ofInt (k_W 24 j)))), ((f 6 4), .inl (cy 0, 196, .inl (fun j => Int32.ofInt (k_W 25 j)))), ((f 6 5), .inl (cy 0, 196, .inl (fun j => Int32.ofInt (k_W 26 j)))), ((f 6 6), .inl (cy 0, 196, .inl (fun j => Int32.ofInt (k_W 27 j)))), ((f 6 7), .inl (cy 0, 196, .inl (fun j => Int32.ofInt (k_W 28 j)))), ((f 6 8), .inl (cy 0, 196, .inl (fun j => Int32.ofInt (k_W 29 j)))), ((f 6 9), .inl (cy 0, 196, .inl (fun j => Int32.ofInt (k_W 30 j)))), ((f 6 10), .inl (cy 0, 196, .inl (fun j => Int32.ofInt (k_W 31 j)))), ((f 6 11), .inl (cy 0, 196, .inl (fun j => Int32.ofInt (k_W 32 j)))), ((f 6 12), .inl (cy 0, 196, .inl (fun j => Int32.ofInt (k_W 33 j)))), ((f 6 13), .inr (1, [.ref (a 0), .ref (a 1), .ref (f 6 2), .ref (f 6 14), .ref (f 6 15), .ref (f 6 16), .ref (f 6 17)])), ((f 6 14), .inr (6, [.long 0, .int 0, .int 0, .int 0]))] : va_W) := by
  simp only [List.map_cons, List.map_nil, pe_24, la_24, pe_25, la_25, pe_26, la_26, pe_27, la_27, pe_28, la_28, pe_29, la_29, pe_30, la_30, pe_31, la_31, pe_32, la_32, pe_33, la_33, pe_34, la_34, pe_35, la_35]
set_option maxHeartbeats 1000000 in
theorem wb_3 {x y : Nat} {a : Nat → Nat} {f : Nat → Nat → Nat} {g tk tv : Nat → Nat} {tf : Nat} {cy : Nat → ClassId} : ([36, 37, 38, 39, 40, 41, 42, 43, 44, 45, 46, 47] : List Int).map (fun z => (l_ad x y a f g tk tv tf z, q_ent (l_ad x y a f g tk tv tf) cy k_all z (q_T z))) = ([((f 6 15), .inl (cy 0, 4, .inl (fun j => Int32.ofInt (k_V 36 j)))), ((f 6 16), .inl (cy 0, 196, .inl (fun _ => 0))), ((f 6 17), .inl (cy 2, 196, .inl (fun _ => 0))), ((a 3), .inr (2, [.ref (f 3 0), .ref (f 3 1), .int (Int32.ofInt ((k_P 39) 39 2))])), ((f 3 0), .inl (cy 4, 10, .inr (.inr (.inr (.inr (fun j => q_rf (l_ad x y a f g tk tv tf) (42 + (j : Int)))))))), ((f 3 1), .inl (cy 0, 26, .inl (fun j => Int32.ofInt ((k_P 39) 41 j)))), ((f 3 2), .inr (4, [.ref (f 3 3), .int 0, .int 0, .int 0, .int 0])), ((f 3 4), .inr (4, [.ref (f 3 5), .int 0, .int 0, .int 0, .int 0])), ((f 3 6), .inr (4, [.ref (f 3 7), .int 0, .int 0, .int 0, .int 0])), ((f 3 8), .inr (4, [.ref (f 3 9), .int 0, .int 0, .int 0, .int 0])), ((f 3 10), .inr (4, [.ref (f 3 11), .int 0, .int 0, .int 0, .int 0])), ((f 3 12), .inr (4, [.ref (f 3 13), .int 0, .int 0, .int 0, .int 0]))] : va_W) := by
  simp only [List.map_cons, List.map_nil, pe_36, la_36, pe_37, la_37, pe_38, la_38, pe_39, la_39, pe_40, la_40, pe_41, la_41, pe_42, la_42, pe_43, la_43, pe_44, la_44, pe_45, la_45, pe_46, la_46, pe_47, la_47]
set_option maxHeartbeats 1000000 in
theorem wb_4 {x y : Nat} {a : Nat → Nat} {f : Nat → Nat → Nat} {g tk tv : Nat → Nat} {tf : Nat} {cy : Nat → ClassId} : ([48, 49, 50, 51, 52, 53, 54, 55, 56, 57, 58, 59] : List Int).map (fun z => (l_ad x y a f g tk tv tf z, q_ent (l_ad x y a f g tk tv tf) cy k_all z (q_T z))) = ([((f 3 14), .inr (4, [.ref (f 3 15), .int 0, .int 0, .int 0, .int 0])), ((f 3 16), .inr (4, [.ref (f 3 17), .int 0, .int 0, .int 0, .int 0])), ((f 3 18), .inr (4, [.ref (f 3 19), .int 0, .int 0, .int 0, .int 0])), ((f 3 20), .inr (4, [.ref (f 3 21), .int 0, .int 0, .int 0, .int 0])), ((f 3 3), .inl (cy 0, 3, .inl (fun _ => 0))), ((f 3 5), .inl (cy 0, 3, .inl (fun _ => 0))), ((f 3 7), .inl (cy 0, 3, .inl (fun _ => 0))), ((f 3 9), .inl (cy 0, 3, .inl (fun _ => 0))), ((f 3 11), .inl (cy 0, 3, .inl (fun _ => 0))), ((f 3 13), .inl (cy 0, 3, .inl (fun _ => 0))), ((f 3 15), .inl (cy 0, 3, .inl (fun _ => 0))), ((f 3 17), .inl (cy 0, 3, .inl (fun _ => 0)))] : va_W) := by
  simp only [List.map_cons, List.map_nil, pe_48, la_48, pe_49, la_49, pe_50, la_50, pe_51, la_51, pe_52, la_52, pe_53, la_53, pe_54, la_54, pe_55, la_55, pe_56, la_56, pe_57, la_57, pe_58, la_58, pe_59, la_59]
set_option maxHeartbeats 1000000 in
theorem wb_5 {x y : Nat} {a : Nat → Nat} {f : Nat → Nat → Nat} {g tk tv : Nat → Nat} {tf : Nat} {cy : Nat → ClassId} : ([60, 61, 62, 63, 64, 65, 66, 67, 68, 69, 70, 71] : List Int).map (fun z => (l_ad x y a f g tk tv tf z, q_ent (l_ad x y a f g tk tv tf) cy k_all z (q_T z))) = ([((f 3 19), .inl (cy 0, 3, .inl (fun _ => 0))), ((f 3 21), .inl (cy 0, 3, .inl (fun _ => 0))), ((a 4), .inr (2, [.ref (f 4 0), .ref (f 4 1), .int (Int32.ofInt ((k_P 62) 62 2))])), ((f 4 0), .inl (cy 4, 10, .inr (.inr (.inr (.inr (fun j => q_rf (l_ad x y a f g tk tv tf) (65 + (j : Int)))))))), ((f 4 1), .inl (cy 0, 26, .inl (fun j => Int32.ofInt ((k_P 62) 64 j)))), ((f 4 2), .inr (4, [.ref (f 4 3), .int 0, .int 0, .int 0, .int 0])), ((f 4 4), .inr (4, [.ref (f 4 5), .int 0, .int 0, .int 0, .int 0])), ((f 4 6), .inr (4, [.ref (f 4 7), .int 0, .int 0, .int 0, .int 0])), ((f 4 8), .inr (4, [.ref (f 4 9), .int 0, .int 0, .int 0, .int 0])), ((f 4 10), .inr (4, [.ref (f 4 11), .int 0, .int 0, .int 0, .int 0])), ((f 4 12), .inr (4, [.ref (f 4 13), .int 0, .int 0, .int 0, .int 0])), ((f 4 14), .inr (4, [.ref (f 4 15), .int 0, .int 0, .int 0, .int 0]))] : va_W) := by
  simp only [List.map_cons, List.map_nil, pe_60, la_60, pe_61, la_61, pe_62, la_62, pe_63, la_63, pe_64, la_64, pe_65, la_65, pe_66, la_66, pe_67, la_67, pe_68, la_68, pe_69, la_69, pe_70, la_70, pe_71, la_71]
set_option maxHeartbeats 1000000 in
theorem wb_6 {x y : Nat} {a : Nat → Nat} {f : Nat → Nat → Nat} {g tk tv : Nat → Nat} {tf : Nat} {cy : Nat → ClassId} : ([72, 73, 74, 75, 76, 77, 78, 79, 80, 81, 82, 83] : List Int).map (fun z => (l_ad x y a f g tk tv tf z, q_ent (l_ad x y a f g tk tv tf) cy k_all z (q_T z))) = ([((f 4 16), .inr (4, [.ref (f 4 17), .int 0, .int 0, .int 0, .int 0])), ((f 4 18), .inr (4, [.ref (f 4 19), .int 0, .int 0, .int 0, .int 0])), ((f 4 20), .inr (4, [.ref (f 4 21), .int 0, .int 0, .int 0, .int 0])), ((f 4 3), .inl (cy 0, 3, .inl (fun _ => 0))), ((f 4 5), .inl (cy 0, 3, .inl (fun _ => 0))), ((f 4 7), .inl (cy 0, 3, .inl (fun _ => 0))), ((f 4 9), .inl (cy 0, 3, .inl (fun _ => 0))), ((f 4 11), .inl (cy 0, 3, .inl (fun _ => 0))), ((f 4 13), .inl (cy 0, 3, .inl (fun _ => 0))), ((f 4 15), .inl (cy 0, 3, .inl (fun _ => 0))), ((f 4 17), .inl (cy 0, 3, .inl (fun _ => 0))), ((f 4 19), .inl (cy 0, 3, .inl (fun _ => 0)))] : va_W) := by
  simp only [List.map_cons, List.map_nil, pe_72, la_72, pe_73, la_73, pe_74, la_74, pe_75, la_75, pe_76, la_76, pe_77, la_77, pe_78, la_78, pe_79, la_79, pe_80, la_80, pe_81, la_81, pe_82, la_82, pe_83, la_83]
set_option maxHeartbeats 1000000 in
theorem wb_7 {x y : Nat} {a : Nat → Nat} {f : Nat → Nat → Nat} {g tk tv : Nat → Nat} {tf : Nat} {cy : Nat → ClassId} : ([84, 85, 86, 87, 88, 89, 90, 91, 92, 93, 94, 95] : List Int).map (fun z => (l_ad x y a f g tk tv tf z, q_ent (l_ad x y a f g tk tv tf) cy k_all z (q_T z))) = ([((f 4 21), .inl (cy 0, 3, .inl (fun _ => 0))), (y, .inr (11, [.int (Int32.ofInt (k_M 85 0)), .int (Int32.ofInt (k_M 85 1)), .int (Int32.ofInt (k_M 85 2)), .int (Int32.ofInt (k_M 85 3)), .ref (g 0), .ref (g 1), .ref (g 2), .int (Int32.ofInt (k_M 85 7)), .ref (g 3), .ref (g 4), .ref (g 5), .ref (g 6), .ref (g 7), .ref (g 8), .int (Int32.ofInt (k_M 85 14)), .ref (g 9), .ref (g 10), .int (Int32.ofInt (k_M 85 17)), .long 0, .long 0, .long 0, .ref (g 11), .ref (g 12), .int (Int32.ofInt (k_M 85 23)), .ref (g 13), .ref (g 14), .ref (g 15), .ref (g 16), .ref (g 17), .ref (g 18), .ref (g 19), .int (Int32.ofInt (k_M 85 31)), .int (Int32.ofInt (k_M 85 32)), .int (Int32.ofInt (k_M 85 33)), .int (Int32.ofInt (k_M 85 34)), .long 0, .int (Int32.ofInt (k_M 85 36)), .int 0])), ((g 0), .inl (cy 0, 576, .inl (fun j => Int32.ofInt (k_M 86 j)))), ((g 1), .inl (cy 0, 1728, .inl (fun _ => 0))), ((g 2), .inl (cy 2, 3, .inl (fun j => Int32.ofInt (k_M 88 j)))), ((g 3), .inl (cy 0, 10, .inl (fun _ => 0))), ((g 4), .inl (cy 0, 10, .inl (fun _ => 0))), ((g 5), .inl (cy 0, 10, .inl (fun _ => 0))), ((g 6), .inl (cy 0, 30, .inl (fun _ => 0))), ((g 7), .inl (cy 0, 10, .inl (fun _ => 0))), ((g 8), .inl (cy 2, 90, .inl (fun j => Int32.ofInt (k_M 94 j)))), ((g 9), .inl (cy 0, 100, .inl (fun _ => 0)))] : va_W) := by
  simp only [List.map_cons, List.map_nil, pe_84, la_84, pe_85, la_85, pe_86, la_86, pe_87, la_87, pe_88, la_88, pe_89, la_89, pe_90, la_90, pe_91, la_91, pe_92, la_92, pe_93, la_93, pe_94, la_94, pe_95, la_95]
set_option maxHeartbeats 1000000 in
theorem wb_8 {x y : Nat} {a : Nat → Nat} {f : Nat → Nat → Nat} {g tk tv : Nat → Nat} {tf : Nat} {cy : Nat → ClassId} : ([96, 97, 98, 99, 100, 101, 102, 103, 104, 105] : List Int).map (fun z => (l_ad x y a f g tk tv tf z, q_ent (l_ad x y a f g tk tv tf) cy k_all z (q_T z))) = ([((g 10), .inl (cy 0, 1440, .inl (fun _ => 0))), ((g 11), .inl (cy 1, 144, .inr (.inl (fun _ => 0)))), ((g 12), .inl (cy 0, 144, .inl (fun _ => 0))), ((g 13), .inl (cy 0, 10, .inl (fun _ => 0))), ((g 14), .inl (cy 0, 10, .inl (fun _ => 0))), ((g 15), .inl (cy 0, 10, .inl (fun _ => 0))), ((g 16), .inl (cy 0, 30, .inl (fun _ => 0))), ((g 17), .inl (cy 0, 10, .inl (fun _ => 0))), ((g 18), .inl (cy 0, 26, .inl (fun j => Int32.ofInt (k_M 104 j)))), ((g 19), .inl (cy 0, 300, .inl (fun _ => 0)))] : va_W) := by
  simp only [List.map_cons, List.map_nil, pe_96, la_96, pe_97, la_97, pe_98, la_98, pe_99, la_99, pe_100, la_100, pe_101, la_101, pe_102, la_102, pe_103, la_103, pe_104, la_104, pe_105, la_105]
theorem w_all {x y : Nat} {a : Nat → Nat} {f : Nat → Nat → Nat} {g tk tv : Nat → Nat} {tf : Nat} {cy : Nat → ClassId} : q_ws q_T q_N (l_ad x y a f g tk tv tf) cy k_all = ([(x, .inr (10, [.ref (a 0), .ref (a 1), .ref (a 2), .ref (a 5), .ref (a 6), .ref (a 3), .ref (a 4), .int (-1), .int 0])), ((a 0), .inr (0, [.int (Int32.ofInt (k_G 1 0)), .int (Int32.ofInt (k_G 1 1)), .int (Int32.ofInt (k_G 1 2))])), ((a 1), .inr (5, [.ref (f 1 0), .ref (f 1 5), .ref (f 1 9)])), ((f 1 0), .inl (cy 5, 4, .inr (.inr (.inr (.inr (fun j => q_rf (l_ad x y a f g tk tv tf) (4 + (j : Int)))))))), ((f 1 1), .inl (cy 0, 196, .inl (fun j => Int32.ofInt (k_S 4 j)))), ((f 1 2), .inl (cy 0, 196, .inl (fun j => Int32.ofInt (k_S 5 j)))), ((f 1 3), .inl (cy 0, 196, .inl (fun j => Int32.ofInt (k_S 6 j)))), ((f 1 4), .inl (cy 0, 196, .inl (fun j => Int32.ofInt (k_S 7 j)))), ((f 1 5), .inl (cy 5, 3, .inr (.inr (.inr (.inr (fun j => q_rf (l_ad x y a f g tk tv tf) (9 + (j : Int)))))))), ((f 1 6), .inl (cy 0, 784, .inl (fun j => Int32.ofInt (k_S 9 j)))), ((f 1 7), .inl (cy 0, 784, .inl (fun j => Int32.ofInt (k_S 10 j)))), ((f 1 8), .inl (cy 0, 784, .inl (fun j => Int32.ofInt (k_S 11 j))))] ++ ([((f 1 9), .inl (cy 2, 3, .inl (fun j => Int32.ofInt (k_S 12 j)))), ((a 2), .inr (7, [.ref (f 2 0), .int 0])), ((f 2 0), .inl (cy 3, 300, .inl (fun _ => 0))), ((a 5), .inr (3, [.ref (f 5 0), .ref (a 4)])), ((f 5 0), .inr (8, [.ref (a 2), .ref (f 5 1), .ref (f 5 2), .ref (f 5 3), .int 0, .int 0])), ((f 5 1), .inl (cy 0, 301, .inl (fun _ => 0))), ((f 5 2), .inl (cy 0, 301, .inl (fun _ => 0))), ((f 5 3), .inl (cy 0, 301, .inl (fun _ => 0))), ((a 6), .inr (9, [.ref (a 0), .ref (f 6 13), .ref (f 6 0), .ref (f 6 1), .ref (f 6 2), .ref (a 3), .int 0])), ((f 6 0), .inl (cy 0, 10, .inl (fun j => Int32.ofInt (k_W 21 j)))), ((f 6 1), .inl (cy 0, 10, .inl (fun _ => 0))), ((f 6 2), .inl (cy 5, 10, .inr (.inr (.inr (.inr (fun j => q_rf (l_ad x y a f g tk tv tf) (24 + (j : Int))))))))] ++ ([((f 6 3), .inl (cy 0, 196, .inl (fun j => Int32.ofInt (k_W 24 j)))), ((f 6 4), .inl (cy 0, 196, .inl (fun j => Int32.ofInt (k_W 25 j)))), ((f 6 5), .inl (cy 0, 196, .inl (fun j => Int32.ofInt (k_W 26 j)))), ((f 6 6), .inl (cy 0, 196, .inl (fun j => Int32.ofInt (k_W 27 j)))), ((f 6 7), .inl (cy 0, 196, .inl (fun j => Int32.ofInt (k_W 28 j)))), ((f 6 8), .inl (cy 0, 196, .inl (fun j => Int32.ofInt (k_W 29 j)))), ((f 6 9), .inl (cy 0, 196, .inl (fun j => Int32.ofInt (k_W 30 j)))), ((f 6 10), .inl (cy 0, 196, .inl (fun j => Int32.ofInt (k_W 31 j)))), ((f 6 11), .inl (cy 0, 196, .inl (fun j => Int32.ofInt (k_W 32 j)))), ((f 6 12), .inl (cy 0, 196, .inl (fun j => Int32.ofInt (k_W 33 j)))), ((f 6 13), .inr (1, [.ref (a 0), .ref (a 1), .ref (f 6 2), .ref (f 6 14), .ref (f 6 15), .ref (f 6 16), .ref (f 6 17)])), ((f 6 14), .inr (6, [.long 0, .int 0, .int 0, .int 0]))] ++ ([((f 6 15), .inl (cy 0, 4, .inl (fun j => Int32.ofInt (k_V 36 j)))), ((f 6 16), .inl (cy 0, 196, .inl (fun _ => 0))), ((f 6 17), .inl (cy 2, 196, .inl (fun _ => 0))), ((a 3), .inr (2, [.ref (f 3 0), .ref (f 3 1), .int (Int32.ofInt ((k_P 39) 39 2))])), ((f 3 0), .inl (cy 4, 10, .inr (.inr (.inr (.inr (fun j => q_rf (l_ad x y a f g tk tv tf) (42 + (j : Int)))))))), ((f 3 1), .inl (cy 0, 26, .inl (fun j => Int32.ofInt ((k_P 39) 41 j)))), ((f 3 2), .inr (4, [.ref (f 3 3), .int 0, .int 0, .int 0, .int 0])), ((f 3 4), .inr (4, [.ref (f 3 5), .int 0, .int 0, .int 0, .int 0])), ((f 3 6), .inr (4, [.ref (f 3 7), .int 0, .int 0, .int 0, .int 0])), ((f 3 8), .inr (4, [.ref (f 3 9), .int 0, .int 0, .int 0, .int 0])), ((f 3 10), .inr (4, [.ref (f 3 11), .int 0, .int 0, .int 0, .int 0])), ((f 3 12), .inr (4, [.ref (f 3 13), .int 0, .int 0, .int 0, .int 0]))] ++ ([((f 3 14), .inr (4, [.ref (f 3 15), .int 0, .int 0, .int 0, .int 0])), ((f 3 16), .inr (4, [.ref (f 3 17), .int 0, .int 0, .int 0, .int 0])), ((f 3 18), .inr (4, [.ref (f 3 19), .int 0, .int 0, .int 0, .int 0])), ((f 3 20), .inr (4, [.ref (f 3 21), .int 0, .int 0, .int 0, .int 0])), ((f 3 3), .inl (cy 0, 3, .inl (fun _ => 0))), ((f 3 5), .inl (cy 0, 3, .inl (fun _ => 0))), ((f 3 7), .inl (cy 0, 3, .inl (fun _ => 0))), ((f 3 9), .inl (cy 0, 3, .inl (fun _ => 0))), ((f 3 11), .inl (cy 0, 3, .inl (fun _ => 0))), ((f 3 13), .inl (cy 0, 3, .inl (fun _ => 0))), ((f 3 15), .inl (cy 0, 3, .inl (fun _ => 0))), ((f 3 17), .inl (cy 0, 3, .inl (fun _ => 0)))] ++ ([((f 3 19), .inl (cy 0, 3, .inl (fun _ => 0))), ((f 3 21), .inl (cy 0, 3, .inl (fun _ => 0))), ((a 4), .inr (2, [.ref (f 4 0), .ref (f 4 1), .int (Int32.ofInt ((k_P 62) 62 2))])), ((f 4 0), .inl (cy 4, 10, .inr (.inr (.inr (.inr (fun j => q_rf (l_ad x y a f g tk tv tf) (65 + (j : Int)))))))), ((f 4 1), .inl (cy 0, 26, .inl (fun j => Int32.ofInt ((k_P 62) 64 j)))), ((f 4 2), .inr (4, [.ref (f 4 3), .int 0, .int 0, .int 0, .int 0])), ((f 4 4), .inr (4, [.ref (f 4 5), .int 0, .int 0, .int 0, .int 0])), ((f 4 6), .inr (4, [.ref (f 4 7), .int 0, .int 0, .int 0, .int 0])), ((f 4 8), .inr (4, [.ref (f 4 9), .int 0, .int 0, .int 0, .int 0])), ((f 4 10), .inr (4, [.ref (f 4 11), .int 0, .int 0, .int 0, .int 0])), ((f 4 12), .inr (4, [.ref (f 4 13), .int 0, .int 0, .int 0, .int 0])), ((f 4 14), .inr (4, [.ref (f 4 15), .int 0, .int 0, .int 0, .int 0]))] ++ ([((f 4 16), .inr (4, [.ref (f 4 17), .int 0, .int 0, .int 0, .int 0])), ((f 4 18), .inr (4, [.ref (f 4 19), .int 0, .int 0, .int 0, .int 0])), ((f 4 20), .inr (4, [.ref (f 4 21), .int 0, .int 0, .int 0, .int 0])), ((f 4 3), .inl (cy 0, 3, .inl (fun _ => 0))), ((f 4 5), .inl (cy 0, 3, .inl (fun _ => 0))), ((f 4 7), .inl (cy 0, 3, .inl (fun _ => 0))), ((f 4 9), .inl (cy 0, 3, .inl (fun _ => 0))), ((f 4 11), .inl (cy 0, 3, .inl (fun _ => 0))), ((f 4 13), .inl (cy 0, 3, .inl (fun _ => 0))), ((f 4 15), .inl (cy 0, 3, .inl (fun _ => 0))), ((f 4 17), .inl (cy 0, 3, .inl (fun _ => 0))), ((f 4 19), .inl (cy 0, 3, .inl (fun _ => 0)))] ++ ([((f 4 21), .inl (cy 0, 3, .inl (fun _ => 0))), (y, .inr (11, [.int (Int32.ofInt (k_M 85 0)), .int (Int32.ofInt (k_M 85 1)), .int (Int32.ofInt (k_M 85 2)), .int (Int32.ofInt (k_M 85 3)), .ref (g 0), .ref (g 1), .ref (g 2), .int (Int32.ofInt (k_M 85 7)), .ref (g 3), .ref (g 4), .ref (g 5), .ref (g 6), .ref (g 7), .ref (g 8), .int (Int32.ofInt (k_M 85 14)), .ref (g 9), .ref (g 10), .int (Int32.ofInt (k_M 85 17)), .long 0, .long 0, .long 0, .ref (g 11), .ref (g 12), .int (Int32.ofInt (k_M 85 23)), .ref (g 13), .ref (g 14), .ref (g 15), .ref (g 16), .ref (g 17), .ref (g 18), .ref (g 19), .int (Int32.ofInt (k_M 85 31)), .int (Int32.ofInt (k_M 85 32)), .int (Int32.ofInt (k_M 85 33)), .int (Int32.ofInt (k_M 85 34)), .long 0, .int (Int32.ofInt (k_M 85 36)), .int 0])), ((g 0), .inl (cy 0, 576, .inl (fun j => Int32.ofInt (k_M 86 j)))), ((g 1), .inl (cy 0, 1728, .inl (fun _ => 0))), ((g 2), .inl (cy 2, 3, .inl (fun j => Int32.ofInt (k_M 88 j)))), ((g 3), .inl (cy 0, 10, .inl (fun _ => 0))), ((g 4), .inl (cy 0, 10, .inl (fun _ => 0))), ((g 5), .inl (cy 0, 10, .inl (fun _ => 0))), ((g 6), .inl (cy 0, 30, .inl (fun _ => 0))), ((g 7), .inl (cy 0, 10, .inl (fun _ => 0))), ((g 8), .inl (cy 2, 90, .inl (fun j => Int32.ofInt (k_M 94 j)))), ((g 9), .inl (cy 0, 100, .inl (fun _ => 0)))] ++ ([((g 10), .inl (cy 0, 1440, .inl (fun _ => 0))), ((g 11), .inl (cy 1, 144, .inr (.inl (fun _ => 0)))), ((g 12), .inl (cy 0, 144, .inl (fun _ => 0))), ((g 13), .inl (cy 0, 10, .inl (fun _ => 0))), ((g 14), .inl (cy 0, 10, .inl (fun _ => 0))), ((g 15), .inl (cy 0, 10, .inl (fun _ => 0))), ((g 16), .inl (cy 0, 30, .inl (fun _ => 0))), ((g 17), .inl (cy 0, 10, .inl (fun _ => 0))), ((g 18), .inl (cy 0, 26, .inl (fun j => Int32.ofInt (k_M 104 j)))), ((g 19), .inl (cy 0, 300, .inl (fun _ => 0)))])))))))) : va_W) := by
  unfold q_ws
  rw [qN_lit, show ([0, 1, 2, 3, 4, 5, 6, 7, 8, 9, 10, 11, 12, 13, 14, 15, 16, 17, 18, 19, 20, 21, 22, 23, 24, 25, 26, 27, 28, 29, 30, 31, 32, 33, 34, 35, 36, 37, 38, 39, 40, 41, 42, 43, 44, 45, 46, 47, 48, 49, 50, 51, 52, 53, 54, 55, 56, 57, 58, 59, 60, 61, 62, 63, 64, 65, 66, 67, 68, 69, 70, 71, 72, 73, 74, 75, 76, 77, 78, 79, 80, 81, 82, 83, 84, 85, 86, 87, 88, 89, 90, 91, 92, 93, 94, 95, 96, 97, 98, 99, 100, 101, 102, 103, 104, 105] : List Int) = [0, 1, 2, 3, 4, 5, 6, 7, 8, 9, 10, 11] ++ ([12, 13, 14, 15, 16, 17, 18, 19, 20, 21, 22, 23] ++ ([24, 25, 26, 27, 28, 29, 30, 31, 32, 33, 34, 35] ++ ([36, 37, 38, 39, 40, 41, 42, 43, 44, 45, 46, 47] ++ ([48, 49, 50, 51, 52, 53, 54, 55, 56, 57, 58, 59] ++ ([60, 61, 62, 63, 64, 65, 66, 67, 68, 69, 70, 71] ++ ([72, 73, 74, 75, 76, 77, 78, 79, 80, 81, 82, 83] ++ ([84, 85, 86, 87, 88, 89, 90, 91, 92, 93, 94, 95] ++ ([96, 97, 98, 99, 100, 101, 102, 103, 104, 105])))))))) from rfl]
  rw [List.map_append, List.map_append, List.map_append, List.map_append, List.map_append, List.map_append, List.map_append, List.map_append, wb_0, wb_1, wb_2, wb_3, wb_4, wb_5, wb_6, wb_7, wb_8]
end
section
set_option maxHeartbeats 2000000 in
set_option maxRecDepth 100000 in
theorem l_perm0 {D : va_G} {cy : Nat → ClassId} {x y : Nat} {a : Nat → Nat} {f : Nat → Nat → Nat} {g tk tv : Nat → Nat} {tf : Nat} {H : Heap} {A : Nat → Prop} (hP : va_P D vwCl (w_X10_init cy x a f ++ w_X11_init cy y g) H) (hD : va_D A (w_X10_init cy x a f ++ w_X11_init cy y g)) : va_P D vwCl [(x, .inr (10, [.ref (a 0), .ref (a 1), .ref (a 2), .ref (a 5), .ref (a 6), .ref (a 3), .ref (a 4), .int (-1), .int 0])), ((a 0), .inr (0, [.int (Int32.ofInt (k_G 1 0)), .int (Int32.ofInt (k_G 1 1)), .int (Int32.ofInt (k_G 1 2))])), ((a 1), .inr (5, [.ref (f 1 0), .ref (f 1 5), .ref (f 1 9)])), ((f 1 0), .inl (cy 5, 4, .inr (.inr (.inr (.inr (fun j => q_rf (l_ad x y a f g tk tv tf) (4 + (j : Int)))))))), ((f 1 1), .inl (cy 0, 196, .inl (fun j => Int32.ofInt (k_S 4 j)))), ((f 1 2), .inl (cy 0, 196, .inl (fun j => Int32.ofInt (k_S 5 j)))), ((f 1 3), .inl (cy 0, 196, .inl (fun j => Int32.ofInt (k_S 6 j)))), ((f 1 4), .inl (cy 0, 196, .inl (fun j => Int32.ofInt (k_S 7 j)))), ((f 1 5), .inl (cy 5, 3, .inr (.inr (.inr (.inr (fun j => q_rf (l_ad x y a f g tk tv tf) (9 + (j : Int)))))))), ((f 1 6), .inl (cy 0, 784, .inl (fun j => Int32.ofInt (k_S 9 j)))), ((f 1 7), .inl (cy 0, 784, .inl (fun j => Int32.ofInt (k_S 10 j)))), ((f 1 8), .inl (cy 0, 784, .inl (fun j => Int32.ofInt (k_S 11 j)))), ((f 1 9), .inl (cy 2, 3, .inl (fun j => Int32.ofInt (k_S 12 j)))), ((a 2), .inr (7, [.ref (f 2 0), .int 0])), ((f 2 0), .inl (cy 3, 300, .inl (fun _ => 0))), ((a 3), .inr (2, [.ref (f 3 0), .ref (f 3 1), .int (Int32.ofInt ((k_P 39) 39 2))])), ((f 3 0), .inl (cy 4, 10, .inr (.inr (.inr (.inr (fun j => q_rf (l_ad x y a f g tk tv tf) (42 + (j : Int)))))))), ((f 3 1), .inl (cy 0, 26, .inl (fun j => Int32.ofInt ((k_P 39) 41 j)))), ((f 3 2), .inr (4, [.ref (f 3 3), .int 0, .int 0, .int 0, .int 0])), ((f 3 3), .inl (cy 0, 3, .inl (fun _ => 0))), ((f 3 4), .inr (4, [.ref (f 3 5), .int 0, .int 0, .int 0, .int 0])), ((f 3 5), .inl (cy 0, 3, .inl (fun _ => 0))), ((f 3 6), .inr (4, [.ref (f 3 7), .int 0, .int 0, .int 0, .int 0])), ((f 3 7), .inl (cy 0, 3, .inl (fun _ => 0))), ((f 3 8), .inr (4, [.ref (f 3 9), .int 0, .int 0, .int 0, .int 0])), ((f 3 9), .inl (cy 0, 3, .inl (fun _ => 0))), ((f 3 10), .inr (4, [.ref (f 3 11), .int 0, .int 0, .int 0, .int 0])), ((f 3 11), .inl (cy 0, 3, .inl (fun _ => 0))), ((f 3 12), .inr (4, [.ref (f 3 13), .int 0, .int 0, .int 0, .int 0])), ((f 3 13), .inl (cy 0, 3, .inl (fun _ => 0))), ((f 3 14), .inr (4, [.ref (f 3 15), .int 0, .int 0, .int 0, .int 0])), ((f 3 15), .inl (cy 0, 3, .inl (fun _ => 0))), ((f 3 16), .inr (4, [.ref (f 3 17), .int 0, .int 0, .int 0, .int 0])), ((f 3 17), .inl (cy 0, 3, .inl (fun _ => 0))), ((f 3 18), .inr (4, [.ref (f 3 19), .int 0, .int 0, .int 0, .int 0])), ((f 3 19), .inl (cy 0, 3, .inl (fun _ => 0))), ((f 3 20), .inr (4, [.ref (f 3 21), .int 0, .int 0, .int 0, .int 0])), ((f 3 21), .inl (cy 0, 3, .inl (fun _ => 0))), ((a 4), .inr (2, [.ref (f 4 0), .ref (f 4 1), .int (Int32.ofInt ((k_P 62) 62 2))])), ((f 4 0), .inl (cy 4, 10, .inr (.inr (.inr (.inr (fun j => q_rf (l_ad x y a f g tk tv tf) (65 + (j : Int)))))))), ((f 4 1), .inl (cy 0, 26, .inl (fun j => Int32.ofInt ((k_P 62) 64 j)))), ((f 4 2), .inr (4, [.ref (f 4 3), .int 0, .int 0, .int 0, .int 0])), ((f 4 3), .inl (cy 0, 3, .inl (fun _ => 0))), ((f 4 4), .inr (4, [.ref (f 4 5), .int 0, .int 0, .int 0, .int 0])), ((f 4 5), .inl (cy 0, 3, .inl (fun _ => 0))), ((f 4 6), .inr (4, [.ref (f 4 7), .int 0, .int 0, .int 0, .int 0])), ((f 4 7), .inl (cy 0, 3, .inl (fun _ => 0))), ((f 4 8), .inr (4, [.ref (f 4 9), .int 0, .int 0, .int 0, .int 0])), ((f 4 9), .inl (cy 0, 3, .inl (fun _ => 0))), ((f 4 10), .inr (4, [.ref (f 4 11), .int 0, .int 0, .int 0, .int 0])), ((f 4 11), .inl (cy 0, 3, .inl (fun _ => 0))), ((f 4 12), .inr (4, [.ref (f 4 13), .int 0, .int 0, .int 0, .int 0])), ((f 4 13), .inl (cy 0, 3, .inl (fun _ => 0))), ((f 4 14), .inr (4, [.ref (f 4 15), .int 0, .int 0, .int 0, .int 0])), ((f 4 15), .inl (cy 0, 3, .inl (fun _ => 0))), ((f 4 16), .inr (4, [.ref (f 4 17), .int 0, .int 0, .int 0, .int 0])), ((f 4 17), .inl (cy 0, 3, .inl (fun _ => 0))), ((f 4 18), .inr (4, [.ref (f 4 19), .int 0, .int 0, .int 0, .int 0])), ((f 4 19), .inl (cy 0, 3, .inl (fun _ => 0))), ((f 4 20), .inr (4, [.ref (f 4 21), .int 0, .int 0, .int 0, .int 0])), ((f 4 21), .inl (cy 0, 3, .inl (fun _ => 0))), ((a 5), .inr (3, [.ref (f 5 0), .ref (a 4)])), ((f 5 0), .inr (8, [.ref (a 2), .ref (f 5 1), .ref (f 5 2), .ref (f 5 3), .int 0, .int 0])), ((f 5 1), .inl (cy 0, 301, .inl (fun _ => 0))), ((f 5 2), .inl (cy 0, 301, .inl (fun _ => 0))), ((f 5 3), .inl (cy 0, 301, .inl (fun _ => 0))), ((a 6), .inr (9, [.ref (a 0), .ref (f 6 13), .ref (f 6 0), .ref (f 6 1), .ref (f 6 2), .ref (a 3), .int 0])), ((f 6 0), .inl (cy 0, 10, .inl (fun j => Int32.ofInt (k_W 21 j)))), ((f 6 1), .inl (cy 0, 10, .inl (fun _ => 0))), ((f 6 2), .inl (cy 5, 10, .inr (.inr (.inr (.inr (fun j => q_rf (l_ad x y a f g tk tv tf) (24 + (j : Int)))))))), ((f 6 3), .inl (cy 0, 196, .inl (fun j => Int32.ofInt (k_W 24 j)))), ((f 6 4), .inl (cy 0, 196, .inl (fun j => Int32.ofInt (k_W 25 j)))), ((f 6 5), .inl (cy 0, 196, .inl (fun j => Int32.ofInt (k_W 26 j)))), ((f 6 6), .inl (cy 0, 196, .inl (fun j => Int32.ofInt (k_W 27 j)))), ((f 6 7), .inl (cy 0, 196, .inl (fun j => Int32.ofInt (k_W 28 j)))), ((f 6 8), .inl (cy 0, 196, .inl (fun j => Int32.ofInt (k_W 29 j)))), ((f 6 9), .inl (cy 0, 196, .inl (fun j => Int32.ofInt (k_W 30 j)))), ((f 6 10), .inl (cy 0, 196, .inl (fun j => Int32.ofInt (k_W 31 j)))), ((f 6 11), .inl (cy 0, 196, .inl (fun j => Int32.ofInt (k_W 32 j)))), ((f 6 12), .inl (cy 0, 196, .inl (fun j => Int32.ofInt (k_W 33 j)))), ((f 6 13), .inr (1, [.ref (a 0), .ref (a 1), .ref (f 6 2), .ref (f 6 14), .ref (f 6 15), .ref (f 6 16), .ref (f 6 17)])), ((f 6 14), .inr (6, [.long 0, .int 0, .int 0, .int 0])), ((f 6 15), .inl (cy 0, 4, .inl (fun j => Int32.ofInt (k_V 36 j)))), ((f 6 16), .inl (cy 0, 196, .inl (fun _ => 0))), ((f 6 17), .inl (cy 2, 196, .inl (fun _ => 0))), (y, .inr (11, [.int (Int32.ofInt (k_M 85 0)), .int (Int32.ofInt (k_M 85 1)), .int (Int32.ofInt (k_M 85 2)), .int (Int32.ofInt (k_M 85 3)), .ref (g 0), .ref (g 1), .ref (g 2), .int (Int32.ofInt (k_M 85 7)), .ref (g 3), .ref (g 4), .ref (g 5), .ref (g 6), .ref (g 7), .ref (g 8), .int (Int32.ofInt (k_M 85 14)), .ref (g 9), .ref (g 10), .int (Int32.ofInt (k_M 85 17)), .long 0, .long 0, .long 0, .ref (g 11), .ref (g 12), .int (Int32.ofInt (k_M 85 23)), .ref (g 13), .ref (g 14), .ref (g 15), .ref (g 16), .ref (g 17), .ref (g 18), .ref (g 19), .int (Int32.ofInt (k_M 85 31)), .int (Int32.ofInt (k_M 85 32)), .int (Int32.ofInt (k_M 85 33)), .int (Int32.ofInt (k_M 85 34)), .long 0, .int (Int32.ofInt (k_M 85 36)), .int 0])), ((g 0), .inl (cy 0, 576, .inl (fun j => Int32.ofInt (k_M 86 j)))), ((g 1), .inl (cy 0, 1728, .inl (fun _ => 0))), ((g 2), .inl (cy 2, 3, .inl (fun j => Int32.ofInt (k_M 88 j)))), ((g 3), .inl (cy 0, 10, .inl (fun _ => 0))), ((g 4), .inl (cy 0, 10, .inl (fun _ => 0))), ((g 5), .inl (cy 0, 10, .inl (fun _ => 0))), ((g 6), .inl (cy 0, 30, .inl (fun _ => 0))), ((g 7), .inl (cy 0, 10, .inl (fun _ => 0))), ((g 8), .inl (cy 2, 90, .inl (fun j => Int32.ofInt (k_M 94 j)))), ((g 9), .inl (cy 0, 100, .inl (fun _ => 0))), ((g 10), .inl (cy 0, 1440, .inl (fun _ => 0))), ((g 11), .inl (cy 1, 144, .inr (.inl (fun _ => 0)))), ((g 12), .inl (cy 0, 144, .inl (fun _ => 0))), ((g 13), .inl (cy 0, 10, .inl (fun _ => 0))), ((g 14), .inl (cy 0, 10, .inl (fun _ => 0))), ((g 15), .inl (cy 0, 10, .inl (fun _ => 0))), ((g 16), .inl (cy 0, 30, .inl (fun _ => 0))), ((g 17), .inl (cy 0, 10, .inl (fun _ => 0))), ((g 18), .inl (cy 0, 26, .inl (fun j => Int32.ofInt (k_M 104 j)))), ((g 19), .inl (cy 0, 300, .inl (fun _ => 0)))] H ∧ va_D A [(x, .inr (10, [.ref (a 0), .ref (a 1), .ref (a 2), .ref (a 5), .ref (a 6), .ref (a 3), .ref (a 4), .int (-1), .int 0])), ((a 0), .inr (0, [.int (Int32.ofInt (k_G 1 0)), .int (Int32.ofInt (k_G 1 1)), .int (Int32.ofInt (k_G 1 2))])), ((a 1), .inr (5, [.ref (f 1 0), .ref (f 1 5), .ref (f 1 9)])), ((f 1 0), .inl (cy 5, 4, .inr (.inr (.inr (.inr (fun j => q_rf (l_ad x y a f g tk tv tf) (4 + (j : Int)))))))), ((f 1 1), .inl (cy 0, 196, .inl (fun j => Int32.ofInt (k_S 4 j)))), ((f 1 2), .inl (cy 0, 196, .inl (fun j => Int32.ofInt (k_S 5 j)))), ((f 1 3), .inl (cy 0, 196, .inl (fun j => Int32.ofInt (k_S 6 j)))), ((f 1 4), .inl (cy 0, 196, .inl (fun j => Int32.ofInt (k_S 7 j)))), ((f 1 5), .inl (cy 5, 3, .inr (.inr (.inr (.inr (fun j => q_rf (l_ad x y a f g tk tv tf) (9 + (j : Int)))))))), ((f 1 6), .inl (cy 0, 784, .inl (fun j => Int32.ofInt (k_S 9 j)))), ((f 1 7), .inl (cy 0, 784, .inl (fun j => Int32.ofInt (k_S 10 j)))), ((f 1 8), .inl (cy 0, 784, .inl (fun j => Int32.ofInt (k_S 11 j)))), ((f 1 9), .inl (cy 2, 3, .inl (fun j => Int32.ofInt (k_S 12 j)))), ((a 2), .inr (7, [.ref (f 2 0), .int 0])), ((f 2 0), .inl (cy 3, 300, .inl (fun _ => 0))), ((a 3), .inr (2, [.ref (f 3 0), .ref (f 3 1), .int (Int32.ofInt ((k_P 39) 39 2))])), ((f 3 0), .inl (cy 4, 10, .inr (.inr (.inr (.inr (fun j => q_rf (l_ad x y a f g tk tv tf) (42 + (j : Int)))))))), ((f 3 1), .inl (cy 0, 26, .inl (fun j => Int32.ofInt ((k_P 39) 41 j)))), ((f 3 2), .inr (4, [.ref (f 3 3), .int 0, .int 0, .int 0, .int 0])), ((f 3 3), .inl (cy 0, 3, .inl (fun _ => 0))), ((f 3 4), .inr (4, [.ref (f 3 5), .int 0, .int 0, .int 0, .int 0])), ((f 3 5), .inl (cy 0, 3, .inl (fun _ => 0))), ((f 3 6), .inr (4, [.ref (f 3 7), .int 0, .int 0, .int 0, .int 0])), ((f 3 7), .inl (cy 0, 3, .inl (fun _ => 0))), ((f 3 8), .inr (4, [.ref (f 3 9), .int 0, .int 0, .int 0, .int 0])), ((f 3 9), .inl (cy 0, 3, .inl (fun _ => 0))), ((f 3 10), .inr (4, [.ref (f 3 11), .int 0, .int 0, .int 0, .int 0])), ((f 3 11), .inl (cy 0, 3, .inl (fun _ => 0))), ((f 3 12), .inr (4, [.ref (f 3 13), .int 0, .int 0, .int 0, .int 0])), ((f 3 13), .inl (cy 0, 3, .inl (fun _ => 0))), ((f 3 14), .inr (4, [.ref (f 3 15), .int 0, .int 0, .int 0, .int 0])), ((f 3 15), .inl (cy 0, 3, .inl (fun _ => 0))), ((f 3 16), .inr (4, [.ref (f 3 17), .int 0, .int 0, .int 0, .int 0])), ((f 3 17), .inl (cy 0, 3, .inl (fun _ => 0))), ((f 3 18), .inr (4, [.ref (f 3 19), .int 0, .int 0, .int 0, .int 0])), ((f 3 19), .inl (cy 0, 3, .inl (fun _ => 0))), ((f 3 20), .inr (4, [.ref (f 3 21), .int 0, .int 0, .int 0, .int 0])), ((f 3 21), .inl (cy 0, 3, .inl (fun _ => 0))), ((a 4), .inr (2, [.ref (f 4 0), .ref (f 4 1), .int (Int32.ofInt ((k_P 62) 62 2))])), ((f 4 0), .inl (cy 4, 10, .inr (.inr (.inr (.inr (fun j => q_rf (l_ad x y a f g tk tv tf) (65 + (j : Int)))))))), ((f 4 1), .inl (cy 0, 26, .inl (fun j => Int32.ofInt ((k_P 62) 64 j)))), ((f 4 2), .inr (4, [.ref (f 4 3), .int 0, .int 0, .int 0, .int 0])), ((f 4 3), .inl (cy 0, 3, .inl (fun _ => 0))), ((f 4 4), .inr (4, [.ref (f 4 5), .int 0, .int 0, .int 0, .int 0])), ((f 4 5), .inl (cy 0, 3, .inl (fun _ => 0))), ((f 4 6), .inr (4, [.ref (f 4 7), .int 0, .int 0, .int 0, .int 0])), ((f 4 7), .inl (cy 0, 3, .inl (fun _ => 0))), ((f 4 8), .inr (4, [.ref (f 4 9), .int 0, .int 0, .int 0, .int 0])), ((f 4 9), .inl (cy 0, 3, .inl (fun _ => 0))), ((f 4 10), .inr (4, [.ref (f 4 11), .int 0, .int 0, .int 0, .int 0])), ((f 4 11), .inl (cy 0, 3, .inl (fun _ => 0))), ((f 4 12), .inr (4, [.ref (f 4 13), .int 0, .int 0, .int 0, .int 0])), ((f 4 13), .inl (cy 0, 3, .inl (fun _ => 0))), ((f 4 14), .inr (4, [.ref (f 4 15), .int 0, .int 0, .int 0, .int 0])), ((f 4 15), .inl (cy 0, 3, .inl (fun _ => 0))), ((f 4 16), .inr (4, [.ref (f 4 17), .int 0, .int 0, .int 0, .int 0])), ((f 4 17), .inl (cy 0, 3, .inl (fun _ => 0))), ((f 4 18), .inr (4, [.ref (f 4 19), .int 0, .int 0, .int 0, .int 0])), ((f 4 19), .inl (cy 0, 3, .inl (fun _ => 0))), ((f 4 20), .inr (4, [.ref (f 4 21), .int 0, .int 0, .int 0, .int 0])), ((f 4 21), .inl (cy 0, 3, .inl (fun _ => 0))), ((a 5), .inr (3, [.ref (f 5 0), .ref (a 4)])), ((f 5 0), .inr (8, [.ref (a 2), .ref (f 5 1), .ref (f 5 2), .ref (f 5 3), .int 0, .int 0])), ((f 5 1), .inl (cy 0, 301, .inl (fun _ => 0))), ((f 5 2), .inl (cy 0, 301, .inl (fun _ => 0))), ((f 5 3), .inl (cy 0, 301, .inl (fun _ => 0))), ((a 6), .inr (9, [.ref (a 0), .ref (f 6 13), .ref (f 6 0), .ref (f 6 1), .ref (f 6 2), .ref (a 3), .int 0])), ((f 6 0), .inl (cy 0, 10, .inl (fun j => Int32.ofInt (k_W 21 j)))), ((f 6 1), .inl (cy 0, 10, .inl (fun _ => 0))), ((f 6 2), .inl (cy 5, 10, .inr (.inr (.inr (.inr (fun j => q_rf (l_ad x y a f g tk tv tf) (24 + (j : Int)))))))), ((f 6 3), .inl (cy 0, 196, .inl (fun j => Int32.ofInt (k_W 24 j)))), ((f 6 4), .inl (cy 0, 196, .inl (fun j => Int32.ofInt (k_W 25 j)))), ((f 6 5), .inl (cy 0, 196, .inl (fun j => Int32.ofInt (k_W 26 j)))), ((f 6 6), .inl (cy 0, 196, .inl (fun j => Int32.ofInt (k_W 27 j)))), ((f 6 7), .inl (cy 0, 196, .inl (fun j => Int32.ofInt (k_W 28 j)))), ((f 6 8), .inl (cy 0, 196, .inl (fun j => Int32.ofInt (k_W 29 j)))), ((f 6 9), .inl (cy 0, 196, .inl (fun j => Int32.ofInt (k_W 30 j)))), ((f 6 10), .inl (cy 0, 196, .inl (fun j => Int32.ofInt (k_W 31 j)))), ((f 6 11), .inl (cy 0, 196, .inl (fun j => Int32.ofInt (k_W 32 j)))), ((f 6 12), .inl (cy 0, 196, .inl (fun j => Int32.ofInt (k_W 33 j)))), ((f 6 13), .inr (1, [.ref (a 0), .ref (a 1), .ref (f 6 2), .ref (f 6 14), .ref (f 6 15), .ref (f 6 16), .ref (f 6 17)])), ((f 6 14), .inr (6, [.long 0, .int 0, .int 0, .int 0])), ((f 6 15), .inl (cy 0, 4, .inl (fun j => Int32.ofInt (k_V 36 j)))), ((f 6 16), .inl (cy 0, 196, .inl (fun _ => 0))), ((f 6 17), .inl (cy 2, 196, .inl (fun _ => 0))), (y, .inr (11, [.int (Int32.ofInt (k_M 85 0)), .int (Int32.ofInt (k_M 85 1)), .int (Int32.ofInt (k_M 85 2)), .int (Int32.ofInt (k_M 85 3)), .ref (g 0), .ref (g 1), .ref (g 2), .int (Int32.ofInt (k_M 85 7)), .ref (g 3), .ref (g 4), .ref (g 5), .ref (g 6), .ref (g 7), .ref (g 8), .int (Int32.ofInt (k_M 85 14)), .ref (g 9), .ref (g 10), .int (Int32.ofInt (k_M 85 17)), .long 0, .long 0, .long 0, .ref (g 11), .ref (g 12), .int (Int32.ofInt (k_M 85 23)), .ref (g 13), .ref (g 14), .ref (g 15), .ref (g 16), .ref (g 17), .ref (g 18), .ref (g 19), .int (Int32.ofInt (k_M 85 31)), .int (Int32.ofInt (k_M 85 32)), .int (Int32.ofInt (k_M 85 33)), .int (Int32.ofInt (k_M 85 34)), .long 0, .int (Int32.ofInt (k_M 85 36)), .int 0])), ((g 0), .inl (cy 0, 576, .inl (fun j => Int32.ofInt (k_M 86 j)))), ((g 1), .inl (cy 0, 1728, .inl (fun _ => 0))), ((g 2), .inl (cy 2, 3, .inl (fun j => Int32.ofInt (k_M 88 j)))), ((g 3), .inl (cy 0, 10, .inl (fun _ => 0))), ((g 4), .inl (cy 0, 10, .inl (fun _ => 0))), ((g 5), .inl (cy 0, 10, .inl (fun _ => 0))), ((g 6), .inl (cy 0, 30, .inl (fun _ => 0))), ((g 7), .inl (cy 0, 10, .inl (fun _ => 0))), ((g 8), .inl (cy 2, 90, .inl (fun j => Int32.ofInt (k_M 94 j)))), ((g 9), .inl (cy 0, 100, .inl (fun _ => 0))), ((g 10), .inl (cy 0, 1440, .inl (fun _ => 0))), ((g 11), .inl (cy 1, 144, .inr (.inl (fun _ => 0)))), ((g 12), .inl (cy 0, 144, .inl (fun _ => 0))), ((g 13), .inl (cy 0, 10, .inl (fun _ => 0))), ((g 14), .inl (cy 0, 10, .inl (fun _ => 0))), ((g 15), .inl (cy 0, 10, .inl (fun _ => 0))), ((g 16), .inl (cy 0, 30, .inl (fun _ => 0))), ((g 17), .inl (cy 0, 10, .inl (fun _ => 0))), ((g 18), .inl (cy 0, 26, .inl (fun j => Int32.ofInt (k_M 104 j)))), ((g 19), .inl (cy 0, 300, .inl (fun _ => 0)))] := by
  have hP := cn_fix (g := fun j => q_rf (l_ad x y a f g tk tv tf) (4 + (j : Int))) hP (q0 := 3) (a := (f 1 0)) (cA := cy 5) (n := 4) rfl (fun j hj => by rcases (show j = 0 ∨ j = 1 ∨ j = 2 ∨ j = 3 by omega) with rfl | rfl | rfl | rfl <;> rfl)
  have hD := va_D.set (p := 3) (a := (f 1 0)) (e := .inl (cy 5, 4, .inr (.inr (.inr (.inr (fun j => q_rf (l_ad x y a f g tk tv tf) (4 + (j : Int)))))))) hD rfl
  have hP := cn_fix (g := fun j => q_rf (l_ad x y a f g tk tv tf) (9 + (j : Int))) hP (q0 := 8) (a := (f 1 5)) (cA := cy 5) (n := 3) rfl (fun j hj => by rcases (show j = 0 ∨ j = 1 ∨ j = 2 by omega) with rfl | rfl | rfl <;> rfl)
  have hD := va_D.set (p := 8) (a := (f 1 5)) (e := .inl (cy 5, 3, .inr (.inr (.inr (.inr (fun j => q_rf (l_ad x y a f g tk tv tf) (9 + (j : Int)))))))) hD rfl
  have hP := cn_fix (g := fun j => q_rf (l_ad x y a f g tk tv tf) (42 + (j : Int))) hP (q0 := 16) (a := (f 3 0)) (cA := cy 4) (n := 10) rfl (fun j hj => by rcases (show j = 0 ∨ j = 1 ∨ j = 2 ∨ j = 3 ∨ j = 4 ∨ j = 5 ∨ j = 6 ∨ j = 7 ∨ j = 8 ∨ j = 9 by omega) with rfl | rfl | rfl | rfl | rfl | rfl | rfl | rfl | rfl | rfl <;> rfl)
  have hD := va_D.set (p := 16) (a := (f 3 0)) (e := .inl (cy 4, 10, .inr (.inr (.inr (.inr (fun j => q_rf (l_ad x y a f g tk tv tf) (42 + (j : Int)))))))) hD rfl
  have hP := cn_fix (g := fun j => q_rf (l_ad x y a f g tk tv tf) (65 + (j : Int))) hP (q0 := 39) (a := (f 4 0)) (cA := cy 4) (n := 10) rfl (fun j hj => by rcases (show j = 0 ∨ j = 1 ∨ j = 2 ∨ j = 3 ∨ j = 4 ∨ j = 5 ∨ j = 6 ∨ j = 7 ∨ j = 8 ∨ j = 9 by omega) with rfl | rfl | rfl | rfl | rfl | rfl | rfl | rfl | rfl | rfl <;> rfl)
  have hD := va_D.set (p := 39) (a := (f 4 0)) (e := .inl (cy 4, 10, .inr (.inr (.inr (.inr (fun j => q_rf (l_ad x y a f g tk tv tf) (65 + (j : Int)))))))) hD rfl
  have hP := cn_fix (g := fun j => q_rf (l_ad x y a f g tk tv tf) (24 + (j : Int))) hP (q0 := 69) (a := (f 6 2)) (cA := cy 5) (n := 10) rfl (fun j hj => by rcases (show j = 0 ∨ j = 1 ∨ j = 2 ∨ j = 3 ∨ j = 4 ∨ j = 5 ∨ j = 6 ∨ j = 7 ∨ j = 8 ∨ j = 9 by omega) with rfl | rfl | rfl | rfl | rfl | rfl | rfl | rfl | rfl | rfl <;> rfl)
  have hD := va_D.set (p := 69) (a := (f 6 2)) (e := .inl (cy 5, 10, .inr (.inr (.inr (.inr (fun j => q_rf (l_ad x y a f g tk tv tf) (24 + (j : Int)))))))) hD rfl
  exact ⟨hP, hD⟩
set_option maxHeartbeats 2000000 in
set_option maxRecDepth 100000 in
theorem l_perm {D : va_G} {cy : Nat → ClassId} {x y : Nat} {a : Nat → Nat} {f : Nat → Nat → Nat} {g tk tv : Nat → Nat} {tf : Nat} {H : Heap} {A : Nat → Prop} (hP : va_P D vwCl (w_X10_init cy x a f ++ w_X11_init cy y g) H) (hD : va_D A (w_X10_init cy x a f ++ w_X11_init cy y g)) : va_P D vwCl (q_ws q_T q_N (l_ad x y a f g tk tv tf) cy k_all) H ∧ va_D A (q_ws q_T q_N (l_ad x y a f g tk tv tf) cy k_all) := by
  obtain ⟨hP, hD⟩ := l_perm0 (tk := tk) (tv := tv) (tf := tf) hP hD
  rw [w_all]
  exact ⟨hP.sub [0, 1, 2, 3, 4, 5, 6, 7, 8, 9, 10, 11, 12, 13, 14, 61, 62, 63, 64, 65, 66, 67, 68, 69, 70, 71, 72, 73, 74, 75, 76, 77, 78, 79, 80, 81, 82, 83, 84, 15, 16, 17, 18, 20, 22, 24, 26, 28, 30, 32, 34, 36, 19, 21, 23, 25, 27, 29, 31, 33, 35, 37, 38, 39, 40, 41, 43, 45, 47, 49, 51, 53, 55, 57, 59, 42, 44, 46, 48, 50, 52, 54, 56, 58, 60, 85, 86, 87, 88, 89, 90, 91, 92, 93, 94, 95, 96, 97, 98, 99, 100, 101, 102, 103, 104, 105] rfl, hD.sub [0, 1, 2, 3, 4, 5, 6, 7, 8, 9, 10, 11, 12, 13, 14, 61, 62, 63, 64, 65, 66, 67, 68, 69, 70, 71, 72, 73, 74, 75, 76, 77, 78, 79, 80, 81, 82, 83, 84, 15, 16, 17, 18, 20, 22, 24, 26, 28, 30, 32, 34, 36, 19, 21, 23, 25, 27, 29, 31, 33, 35, 37, 38, 39, 40, 41, 43, 45, 47, 49, 51, 53, 55, 57, 59, 42, 44, 46, 48, 50, 52, 54, 56, 58, 60, 85, 86, 87, 88, 89, 90, 91, 92, 93, 94, 95, 96, 97, 98, 99, 100, 101, 102, 103, 104, 105] (by decide) rfl⟩
end
