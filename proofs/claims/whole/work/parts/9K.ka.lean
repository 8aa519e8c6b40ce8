/-! the law: from its entry to its loop -/
theorem cy_arr {s : State} {args : Array Value} {ty : FieldType} (h : (Cond.arrayClass ty).before args s = true) (ho : ∀ C, ty ≠ .object C) : ∃ cA, ArrOfT s cA ty ∧ va_RA s cA ty := by
  obtain ⟨c, k, comp, h1, h2, h3⟩ := Cond.arrayClass_spec h
  refine ⟨c, fun n z => ⟨fun k h => (by cases h), k, h2, comp, h3⟩, ?_⟩
  cases ty with
  | object C => exact absurd rfl (ho C)
  | _ => exact h1
theorem cy_obj {s : State} {C : String} (h : va_AO C s) : ∃ cA, ArrOfT s cA (.object C) ∧ va_RA s cA (.object C) := by
  obtain ⟨comp, c, k, h1, h2, h3, h4, h5⟩ := Cond.arrayOver_spec h
  exact ⟨c, fun n z => ⟨fun k h => (by cases h), k, h3, comp, h4⟩, k, comp, h3, h4, h1, h5⟩
theorem cy_aoa {s : State} (h : va_AOA .int s) : ∃ cA, ArrOfT s cA (.array .int) ∧ va_RA s cA (.array .int) := by
  have h : (Cond.arrayOver (.array .int)).holds #[] s none s [] = true := h
  simp only [Cond.holds, Cond.value, beq_iff_eq] at h
  cases hc : s.vm.findClass (FieldType.array .int).toString with
  | none => simp [hc] at h
  | some comp =>
    simp only [hc, Option.bind_some, Option.bind_eq_some_iff, Option.map_eq_some_iff] at h
    obtain ⟨c, hi, k, hk, hb⟩ := h
    obtain ⟨hlt, hp, -⟩ := Array.findIdx?_eq_some_iff_getElem.mp hi
    have hkk : s.vm.classes[c] = k := (Array.getElem?_eq_some_iff.mp hk).2
    rw [hkk] at hp
    cases hkind : k.kind with
    | array component ty =>
      rw [hkind] at hb hp
      simp at hb hp
      exact ⟨c, fun n z => ⟨fun k h => (by cases h), k, hk, comp, by rw [hkind, hp, hb.1]⟩, hb.2⟩
    | _ => rw [hkind] at hb; simp at hb
def k_all : QM := fun a j => if a = 0 then (if j = 5 then 39 else if j = 6 then 62 else if j = 7 then -1 else 0) else if a = 1 then k_G a j else if a ≤ 12 then k_S a j else if a ≤ 14 then 0 else if a ≤ 19 then (if a = 15 ∧ j = 1 then 62 else 0) else if a ≤ 38 then k_W a j else if a ≤ 61 then k_P 39 a j else if a ≤ 84 then k_P 62 a j else k_M a j
theorem dl_0 : decode code 0 = .ok (.new 7, 3) := by decide +kernel
theorem dl_3 : decode code 3 = .ok (.dup, 1) := by decide +kernel
theorem dl_4 : decode code 4 = .ok (.invokespecial 9, 3) := by decide +kernel
theorem dl_7 : decode code 7 = .ok (.astore_n 1, 1) := by decide +kernel
theorem dl_8 : decode code 8 = .ok (.new 10, 3) := by decide +kernel
theorem dl_11 : decode code 11 = .ok (.dup, 1) := by decide +kernel
theorem dl_12 : decode code 12 = .ok (.invokespecial 12, 3) := by decide +kernel
theorem dl_15 : decode code 15 = .ok (.astore_n 2, 1) := by decide +kernel
/-- where each cell lies -/
def l_ad (x y : Nat) (a : Nat → Nat) (f : Nat → Nat → Nat) (g : Nat → Nat) (tk tv : Nat → Nat) (tf : Nat) : Int → Nat := fun z => if z < 106 then [x, (a 0), (a 1), (f 1 0), (f 1 1), (f 1 2), (f 1 3), (f 1 4), (f 1 5), (f 1 6), (f 1 7), (f 1 8), (f 1 9), (a 2), (f 2 0), (a 5), (f 5 0), (f 5 1), (f 5 2), (f 5 3), (a 6), (f 6 0), (f 6 1), (f 6 2), (f 6 3), (f 6 4), (f 6 5), (f 6 6), (f 6 7), (f 6 8), (f 6 9), (f 6 10), (f 6 11), (f 6 12), (f 6 13), (f 6 14), (f 6 15), (f 6 16), (f 6 17), (a 3), (f 3 0), (f 3 1), (f 3 2), (f 3 4), (f 3 6), (f 3 8), (f 3 10), (f 3 12), (f 3 14), (f 3 16), (f 3 18), (f 3 20), (f 3 3), (f 3 5), (f 3 7), (f 3 9), (f 3 11), (f 3 13), (f 3 15), (f 3 17), (f 3 19), (f 3 21), (a 4), (f 4 0), (f 4 1), (f 4 2), (f 4 4), (f 4 6), (f 4 8), (f 4 10), (f 4 12), (f 4 14), (f 4 16), (f 4 18), (f 4 20), (f 4 3), (f 4 5), (f 4 7), (f 4 9), (f 4 11), (f 4 13), (f 4 15), (f 4 17), (f 4 19), (f 4 21), y, (g 0), (g 1), (g 2), (g 3), (g 4), (g 5), (g 6), (g 7), (g 8), (g 9), (g 10), (g 11), (g 12), (g 13), (g 14), (g 15), (g 16), (g 17), (g 18), (g 19)].getD z.toNat 0 else if z < 2000 then tk (z - 1000).toNat else if z < 3000 then tv (z - 2000).toNat else tf

