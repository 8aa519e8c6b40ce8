/-! entries of the world, evaluated -/
def en_go {α β : Type} (f : Nat → α → β) : Nat → List α → List β
  | _, [] => []
  | n, a :: l => f n a :: en_go f (n + 1) l
theorem en_mi {α β : Type} (f : Nat → α → β) : ∀ (l : List α) (n : Nat), l.mapIdx (fun i => f (i + n)) = en_go f n l := by
  intro l
  induction l with
  | nil => intro n; rfl
  | cons a l ih =>
    intro n
    rw [List.mapIdx_cons]
    show f (0 + n) a :: _ = f n a :: en_go f (n + 1) l
    rw [Nat.zero_add, ← ih (n + 1)]
    congr 2
    funext i
    rw [Nat.add_assoc, Nat.add_comm 1 n]
theorem en_m0 {α β : Type} (f : Nat → α → β) (l : List α) : l.mapIdx f = en_go f 0 l := en_mi f l 0
theorem en_ob {ad : Int → Nat} {cy : Nat → ClassId} {μ : QM} {a : Int} {ci : Nat} {ks : List QK} : q_ent ad cy μ a (some (.inl (ci, ks))) = .inr (ci, en_go (fun k sk => q_cv ad (q_sv μ a k sk)) 0 ks) := by
  show Sum.inr (ci, ks.mapIdx (fun k sk => q_cv ad (q_sv μ a k sk))) = _
  rw [en_m0]
theorem en_0 {ad : Int → Nat} {cy : Nat → ClassId} {μ : QM} : q_ent ad cy μ 0 (q_T 0) = (.inr (10, [.ref (ad 1), .ref (ad 2), .ref (ad 13), .ref (ad 15), .ref (ad 20), va_rf (q_rf ad (μ 0 5)), va_rf (q_rf ad (μ 0 6)), .int (Int32.ofInt (μ 0 7)), .int (Int32.ofInt (μ 0 8))]) : va_E) := by
  rw [T_0, en_ob]
  rfl
theorem en_1 {ad : Int → Nat} {cy : Nat → ClassId} {μ : QM} : q_ent ad cy μ 1 (q_T 1) = (.inr (0, [.int (Int32.ofInt (μ 1 0)), .int (Int32.ofInt (μ 1 1)), .int (Int32.ofInt (μ 1 2))]) : va_E) := by
  rw [T_1, en_ob]
  rfl
theorem en_2 {ad : Int → Nat} {cy : Nat → ClassId} {μ : QM} : q_ent ad cy μ 2 (q_T 2) = (.inr (5, [.ref (ad 3), .ref (ad 8), .ref (ad 12)]) : va_E) := by
  rw [T_2, en_ob]
  rfl
theorem en_3 {ad : Int → Nat} {cy : Nat → ClassId} {μ : QM} : q_ent ad cy μ 3 (q_T 3) = (.inl (cy 5, 4, .inr (.inr (.inr (.inr (fun j => q_rf ad (4 + (j : Int))))))) : va_E) := by
  rw [T_3]
  rfl
theorem en_4 {ad : Int → Nat} {cy : Nat → ClassId} {μ : QM} : q_ent ad cy μ 4 (q_T 4) = (.inl (cy 0, 196, .inl (fun j => Int32.ofInt (μ 4 j))) : va_E) := by
  rw [T_4]
  rfl
theorem en_5 {ad : Int → Nat} {cy : Nat → ClassId} {μ : QM} : q_ent ad cy μ 5 (q_T 5) = (.inl (cy 0, 196, .inl (fun j => Int32.ofInt (μ 5 j))) : va_E) := by
  rw [T_5]
  rfl
theorem en_6 {ad : Int → Nat} {cy : Nat → ClassId} {μ : QM} : q_ent ad cy μ 6 (q_T 6) = (.inl (cy 0, 196, .inl (fun j => Int32.ofInt (μ 6 j))) : va_E) := by
  rw [T_6]
  rfl
theorem en_7 {ad : Int → Nat} {cy : Nat → ClassId} {μ : QM} : q_ent ad cy μ 7 (q_T 7) = (.inl (cy 0, 196, .inl (fun j => Int32.ofInt (μ 7 j))) : va_E) := by
  rw [T_7]
  rfl
theorem en_8 {ad : Int → Nat} {cy : Nat → ClassId} {μ : QM} : q_ent ad cy μ 8 (q_T 8) = (.inl (cy 5, 3, .inr (.inr (.inr (.inr (fun j => q_rf ad (9 + (j : Int))))))) : va_E) := by
  rw [T_8]
  rfl
theorem en_9 {ad : Int → Nat} {cy : Nat → ClassId} {μ : QM} : q_ent ad cy μ 9 (q_T 9) = (.inl (cy 0, 784, .inl (fun j => Int32.ofInt (μ 9 j))) : va_E) := by
  rw [T_9]
  rfl
theorem en_10 {ad : Int → Nat} {cy : Nat → ClassId} {μ : QM} : q_ent ad cy μ 10 (q_T 10) = (.inl (cy 0, 784, .inl (fun j => Int32.ofInt (μ 10 j))) : va_E) := by
  rw [T_10]
  rfl
theorem en_11 {ad : Int → Nat} {cy : Nat → ClassId} {μ : QM} : q_ent ad cy μ 11 (q_T 11) = (.inl (cy 0, 784, .inl (fun j => Int32.ofInt (μ 11 j))) : va_E) := by
  rw [T_11]
  rfl
theorem en_12 {ad : Int → Nat} {cy : Nat → ClassId} {μ : QM} : q_ent ad cy μ 12 (q_T 12) = (.inl (cy 2, 3, .inl (fun j => Int32.ofInt (μ 12 j))) : va_E) := by
  rw [T_12]
  rfl
theorem en_13 {ad : Int → Nat} {cy : Nat → ClassId} {μ : QM} : q_ent ad cy μ 13 (q_T 13) = (.inr (7, [.ref (ad 14), .int (Int32.ofInt (μ 13 1))]) : va_E) := by
  rw [T_13, en_ob]
  rfl
theorem en_14 {ad : Int → Nat} {cy : Nat → ClassId} {μ : QM} : q_ent ad cy μ 14 (q_T 14) = (.inl (cy 3, 300, .inl (fun j => Int32.ofInt (μ 14 j))) : va_E) := by
  rw [T_14]
  rfl
theorem en_15 {ad : Int → Nat} {cy : Nat → ClassId} {μ : QM} : q_ent ad cy μ 15 (q_T 15) = (.inr (3, [.ref (ad 16), va_rf (q_rf ad (μ 15 1))]) : va_E) := by
  rw [T_15, en_ob]
  rfl
theorem en_16 {ad : Int → Nat} {cy : Nat → ClassId} {μ : QM} : q_ent ad cy μ 16 (q_T 16) = (.inr (8, [.ref (ad 13), .ref (ad 17), .ref (ad 18), .ref (ad 19), .int (Int32.ofInt (μ 16 4)), .int (Int32.ofInt (μ 16 5))]) : va_E) := by
  rw [T_16, en_ob]
  rfl
theorem en_17 {ad : Int → Nat} {cy : Nat → ClassId} {μ : QM} : q_ent ad cy μ 17 (q_T 17) = (.inl (cy 0, 301, .inl (fun j => Int32.ofInt (μ 17 j))) : va_E) := by
  rw [T_17]
  rfl
theorem en_18 {ad : Int → Nat} {cy : Nat → ClassId} {μ : QM} : q_ent ad cy μ 18 (q_T 18) = (.inl (cy 0, 301, .inl (fun j => Int32.ofInt (μ 18 j))) : va_E) := by
  rw [T_18]
  rfl
theorem en_19 {ad : Int → Nat} {cy : Nat → ClassId} {μ : QM} : q_ent ad cy μ 19 (q_T 19) = (.inl (cy 0, 301, .inl (fun j => Int32.ofInt (μ 19 j))) : va_E) := by
  rw [T_19]
  rfl
theorem en_20 {ad : Int → Nat} {cy : Nat → ClassId} {μ : QM} : q_ent ad cy μ 20 (q_T 20) = (.inr (9, [.ref (ad 1), .ref (ad 34), .ref (ad 21), .ref (ad 22), .ref (ad 23), va_rf (q_rf ad (μ 20 5)), .int (Int32.ofInt (μ 20 6))]) : va_E) := by
  rw [T_20, en_ob]
  rfl
theorem en_21 {ad : Int → Nat} {cy : Nat → ClassId} {μ : QM} : q_ent ad cy μ 21 (q_T 21) = (.inl (cy 0, 10, .inl (fun j => Int32.ofInt (μ 21 j))) : va_E) := by
  rw [T_21]
  rfl
theorem en_22 {ad : Int → Nat} {cy : Nat → ClassId} {μ : QM} : q_ent ad cy μ 22 (q_T 22) = (.inl (cy 0, 10, .inl (fun j => Int32.ofInt (μ 22 j))) : va_E) := by
  rw [T_22]
  rfl
theorem en_23 {ad : Int → Nat} {cy : Nat → ClassId} {μ : QM} : q_ent ad cy μ 23 (q_T 23) = (.inl (cy 5, 10, .inr (.inr (.inr (.inr (fun j => q_rf ad (24 + (j : Int))))))) : va_E) := by
  rw [T_23]
  rfl
theorem en_24 {ad : Int → Nat} {cy : Nat → ClassId} {μ : QM} : q_ent ad cy μ 24 (q_T 24) = (.inl (cy 0, 196, .inl (fun j => Int32.ofInt (μ 24 j))) : va_E) := by
  rw [T_24]
  rfl
theorem en_25 {ad : Int → Nat} {cy : Nat → ClassId} {μ : QM} : q_ent ad cy μ 25 (q_T 25) = (.inl (cy 0, 196, .inl (fun j => Int32.ofInt (μ 25 j))) : va_E) := by
  rw [T_25]
  rfl
theorem en_26 {ad : Int → Nat} {cy : Nat → ClassId} {μ : QM} : q_ent ad cy μ 26 (q_T 26) = (.inl (cy 0, 196, .inl (fun j => Int32.ofInt (μ 26 j))) : va_E) := by
  rw [T_26]
  rfl
theorem en_27 {ad : Int → Nat} {cy : Nat → ClassId} {μ : QM} : q_ent ad cy μ 27 (q_T 27) = (.inl (cy 0, 196, .inl (fun j => Int32.ofInt (μ 27 j))) : va_E) := by
  rw [T_27]
  rfl
theorem en_28 {ad : Int → Nat} {cy : Nat → ClassId} {μ : QM} : q_ent ad cy μ 28 (q_T 28) = (.inl (cy 0, 196, .inl (fun j => Int32.ofInt (μ 28 j))) : va_E) := by
  rw [T_28]
  rfl
theorem en_29 {ad : Int → Nat} {cy : Nat → ClassId} {μ : QM} : q_ent ad cy μ 29 (q_T 29) = (.inl (cy 0, 196, .inl (fun j => Int32.ofInt (μ 29 j))) : va_E) := by
  rw [T_29]
  rfl
theorem en_30 {ad : Int → Nat} {cy : Nat → ClassId} {μ : QM} : q_ent ad cy μ 30 (q_T 30) = (.inl (cy 0, 196, .inl (fun j => Int32.ofInt (μ 30 j))) : va_E) := by
  rw [T_30]
  rfl
theorem en_31 {ad : Int → Nat} {cy : Nat → ClassId} {μ : QM} : q_ent ad cy μ 31 (q_T 31) = (.inl (cy 0, 196, .inl (fun j => Int32.ofInt (μ 31 j))) : va_E) := by
  rw [T_31]
  rfl
theorem en_32 {ad : Int → Nat} {cy : Nat → ClassId} {μ : QM} : q_ent ad cy μ 32 (q_T 32) = (.inl (cy 0, 196, .inl (fun j => Int32.ofInt (μ 32 j))) : va_E) := by
  rw [T_32]
  rfl
theorem en_33 {ad : Int → Nat} {cy : Nat → ClassId} {μ : QM} : q_ent ad cy μ 33 (q_T 33) = (.inl (cy 0, 196, .inl (fun j => Int32.ofInt (μ 33 j))) : va_E) := by
  rw [T_33]
  rfl
theorem en_34 {ad : Int → Nat} {cy : Nat → ClassId} {μ : QM} : q_ent ad cy μ 34 (q_T 34) = (.inr (1, [.ref (ad 1), .ref (ad 2), .ref (ad 23), .ref (ad 35), .ref (ad 36), .ref (ad 37), .ref (ad 38)]) : va_E) := by
  rw [T_34, en_ob]
  rfl
theorem en_35 {ad : Int → Nat} {cy : Nat → ClassId} {μ : QM} : q_ent ad cy μ 35 (q_T 35) = (.inr (6, [.long (Int64.ofInt (μ 35 0)), .int (Int32.ofInt (μ 35 1)), .int (Int32.ofInt (μ 35 2)), .int (Int32.ofInt (μ 35 3))]) : va_E) := by
  rw [T_35, en_ob]
  rfl
theorem en_36 {ad : Int → Nat} {cy : Nat → ClassId} {μ : QM} : q_ent ad cy μ 36 (q_T 36) = (.inl (cy 0, 4, .inl (fun j => Int32.ofInt (μ 36 j))) : va_E) := by
  rw [T_36]
  rfl
theorem en_37 {ad : Int → Nat} {cy : Nat → ClassId} {μ : QM} : q_ent ad cy μ 37 (q_T 37) = (.inl (cy 0, 196, .inl (fun j => Int32.ofInt (μ 37 j))) : va_E) := by
  rw [T_37]
  rfl
theorem en_38 {ad : Int → Nat} {cy : Nat → ClassId} {μ : QM} : q_ent ad cy μ 38 (q_T 38) = (.inl (cy 2, 196, .inl (fun j => Int32.ofInt (μ 38 j))) : va_E) := by
  rw [T_38]
  rfl
theorem en_39 {ad : Int → Nat} {cy : Nat → ClassId} {μ : QM} : q_ent ad cy μ 39 (q_T 39) = (.inr (2, [.ref (ad 40), .ref (ad 41), .int (Int32.ofInt (μ 39 2))]) : va_E) := by
  rw [T_39, en_ob]
  rfl
theorem en_40 {ad : Int → Nat} {cy : Nat → ClassId} {μ : QM} : q_ent ad cy μ 40 (q_T 40) = (.inl (cy 4, 10, .inr (.inr (.inr (.inr (fun j => q_rf ad (42 + (j : Int))))))) : va_E) := by
  rw [T_40]
  rfl
theorem en_41 {ad : Int → Nat} {cy : Nat → ClassId} {μ : QM} : q_ent ad cy μ 41 (q_T 41) = (.inl (cy 0, 26, .inl (fun j => Int32.ofInt (μ 41 j))) : va_E) := by
  rw [T_41]
  rfl
theorem en_42 {ad : Int → Nat} {cy : Nat → ClassId} {μ : QM} : q_ent ad cy μ 42 (q_T 42) = (.inr (4, [.ref (ad 52), .int (Int32.ofInt (μ 42 1)), .int (Int32.ofInt (μ 42 2)), .int (Int32.ofInt (μ 42 3)), .int (Int32.ofInt (μ 42 4))]) : va_E) := by
  rw [T_42, en_ob]
  rfl
theorem en_43 {ad : Int → Nat} {cy : Nat → ClassId} {μ : QM} : q_ent ad cy μ 43 (q_T 43) = (.inr (4, [.ref (ad 53), .int (Int32.ofInt (μ 43 1)), .int (Int32.ofInt (μ 43 2)), .int (Int32.ofInt (μ 43 3)), .int (Int32.ofInt (μ 43 4))]) : va_E) := by
  rw [T_43, en_ob]
  rfl
theorem en_44 {ad : Int → Nat} {cy : Nat → ClassId} {μ : QM} : q_ent ad cy μ 44 (q_T 44) = (.inr (4, [.ref (ad 54), .int (Int32.ofInt (μ 44 1)), .int (Int32.ofInt (μ 44 2)), .int (Int32.ofInt (μ 44 3)), .int (Int32.ofInt (μ 44 4))]) : va_E) := by
  rw [T_44, en_ob]
  rfl
theorem en_45 {ad : Int → Nat} {cy : Nat → ClassId} {μ : QM} : q_ent ad cy μ 45 (q_T 45) = (.inr (4, [.ref (ad 55), .int (Int32.ofInt (μ 45 1)), .int (Int32.ofInt (μ 45 2)), .int (Int32.ofInt (μ 45 3)), .int (Int32.ofInt (μ 45 4))]) : va_E) := by
  rw [T_45, en_ob]
  rfl
theorem en_46 {ad : Int → Nat} {cy : Nat → ClassId} {μ : QM} : q_ent ad cy μ 46 (q_T 46) = (.inr (4, [.ref (ad 56), .int (Int32.ofInt (μ 46 1)), .int (Int32.ofInt (μ 46 2)), .int (Int32.ofInt (μ 46 3)), .int (Int32.ofInt (μ 46 4))]) : va_E) := by
  rw [T_46, en_ob]
  rfl
theorem en_47 {ad : Int → Nat} {cy : Nat → ClassId} {μ : QM} : q_ent ad cy μ 47 (q_T 47) = (.inr (4, [.ref (ad 57), .int (Int32.ofInt (μ 47 1)), .int (Int32.ofInt (μ 47 2)), .int (Int32.ofInt (μ 47 3)), .int (Int32.ofInt (μ 47 4))]) : va_E) := by
  rw [T_47, en_ob]
  rfl
theorem en_48 {ad : Int → Nat} {cy : Nat → ClassId} {μ : QM} : q_ent ad cy μ 48 (q_T 48) = (.inr (4, [.ref (ad 58), .int (Int32.ofInt (μ 48 1)), .int (Int32.ofInt (μ 48 2)), .int (Int32.ofInt (μ 48 3)), .int (Int32.ofInt (μ 48 4))]) : va_E) := by
  rw [T_48, en_ob]
  rfl
theorem en_49 {ad : Int → Nat} {cy : Nat → ClassId} {μ : QM} : q_ent ad cy μ 49 (q_T 49) = (.inr (4, [.ref (ad 59), .int (Int32.ofInt (μ 49 1)), .int (Int32.ofInt (μ 49 2)), .int (Int32.ofInt (μ 49 3)), .int (Int32.ofInt (μ 49 4))]) : va_E) := by
  rw [T_49, en_ob]
  rfl
theorem en_50 {ad : Int → Nat} {cy : Nat → ClassId} {μ : QM} : q_ent ad cy μ 50 (q_T 50) = (.inr (4, [.ref (ad 60), .int (Int32.ofInt (μ 50 1)), .int (Int32.ofInt (μ 50 2)), .int (Int32.ofInt (μ 50 3)), .int (Int32.ofInt (μ 50 4))]) : va_E) := by
  rw [T_50, en_ob]
  rfl
theorem en_51 {ad : Int → Nat} {cy : Nat → ClassId} {μ : QM} : q_ent ad cy μ 51 (q_T 51) = (.inr (4, [.ref (ad 61), .int (Int32.ofInt (μ 51 1)), .int (Int32.ofInt (μ 51 2)), .int (Int32.ofInt (μ 51 3)), .int (Int32.ofInt (μ 51 4))]) : va_E) := by
  rw [T_51, en_ob]
  rfl
theorem en_52 {ad : Int → Nat} {cy : Nat → ClassId} {μ : QM} : q_ent ad cy μ 52 (q_T 52) = (.inl (cy 0, 3, .inl (fun j => Int32.ofInt (μ 52 j))) : va_E) := by
  rw [T_52]
  rfl
theorem en_53 {ad : Int → Nat} {cy : Nat → ClassId} {μ : QM} : q_ent ad cy μ 53 (q_T 53) = (.inl (cy 0, 3, .inl (fun j => Int32.ofInt (μ 53 j))) : va_E) := by
  rw [T_53]
  rfl
theorem en_54 {ad : Int → Nat} {cy : Nat → ClassId} {μ : QM} : q_ent ad cy μ 54 (q_T 54) = (.inl (cy 0, 3, .inl (fun j => Int32.ofInt (μ 54 j))) : va_E) := by
  rw [T_54]
  rfl
theorem en_55 {ad : Int → Nat} {cy : Nat → ClassId} {μ : QM} : q_ent ad cy μ 55 (q_T 55) = (.inl (cy 0, 3, .inl (fun j => Int32.ofInt (μ 55 j))) : va_E) := by
  rw [T_55]
  rfl
theorem en_56 {ad : Int → Nat} {cy : Nat → ClassId} {μ : QM} : q_ent ad cy μ 56 (q_T 56) = (.inl (cy 0, 3, .inl (fun j => Int32.ofInt (μ 56 j))) : va_E) := by
  rw [T_56]
  rfl
theorem en_57 {ad : Int → Nat} {cy : Nat → ClassId} {μ : QM} : q_ent ad cy μ 57 (q_T 57) = (.inl (cy 0, 3, .inl (fun j => Int32.ofInt (μ 57 j))) : va_E) := by
  rw [T_57]
  rfl
theorem en_58 {ad : Int → Nat} {cy : Nat → ClassId} {μ : QM} : q_ent ad cy μ 58 (q_T 58) = (.inl (cy 0, 3, .inl (fun j => Int32.ofInt (μ 58 j))) : va_E) := by
  rw [T_58]
  rfl
theorem en_59 {ad : Int → Nat} {cy : Nat → ClassId} {μ : QM} : q_ent ad cy μ 59 (q_T 59) = (.inl (cy 0, 3, .inl (fun j => Int32.ofInt (μ 59 j))) : va_E) := by
  rw [T_59]
  rfl
theorem en_60 {ad : Int → Nat} {cy : Nat → ClassId} {μ : QM} : q_ent ad cy μ 60 (q_T 60) = (.inl (cy 0, 3, .inl (fun j => Int32.ofInt (μ 60 j))) : va_E) := by
  rw [T_60]
  rfl
theorem en_61 {ad : Int → Nat} {cy : Nat → ClassId} {μ : QM} : q_ent ad cy μ 61 (q_T 61) = (.inl (cy 0, 3, .inl (fun j => Int32.ofInt (μ 61 j))) : va_E) := by
  rw [T_61]
  rfl
theorem en_62 {ad : Int → Nat} {cy : Nat → ClassId} {μ : QM} : q_ent ad cy μ 62 (q_T 62) = (.inr (2, [.ref (ad 63), .ref (ad 64), .int (Int32.ofInt (μ 62 2))]) : va_E) := by
  rw [T_62, en_ob]
  rfl
theorem en_63 {ad : Int → Nat} {cy : Nat → ClassId} {μ : QM} : q_ent ad cy μ 63 (q_T 63) = (.inl (cy 4, 10, .inr (.inr (.inr (.inr (fun j => q_rf ad (65 + (j : Int))))))) : va_E) := by
  rw [T_63]
  rfl
theorem en_64 {ad : Int → Nat} {cy : Nat → ClassId} {μ : QM} : q_ent ad cy μ 64 (q_T 64) = (.inl (cy 0, 26, .inl (fun j => Int32.ofInt (μ 64 j))) : va_E) := by
  rw [T_64]
  rfl
theorem en_65 {ad : Int → Nat} {cy : Nat → ClassId} {μ : QM} : q_ent ad cy μ 65 (q_T 65) = (.inr (4, [.ref (ad 75), .int (Int32.ofInt (μ 65 1)), .int (Int32.ofInt (μ 65 2)), .int (Int32.ofInt (μ 65 3)), .int (Int32.ofInt (μ 65 4))]) : va_E) := by
  rw [T_65, en_ob]
  rfl
theorem en_66 {ad : Int → Nat} {cy : Nat → ClassId} {μ : QM} : q_ent ad cy μ 66 (q_T 66) = (.inr (4, [.ref (ad 76), .int (Int32.ofInt (μ 66 1)), .int (Int32.ofInt (μ 66 2)), .int (Int32.ofInt (μ 66 3)), .int (Int32.ofInt (μ 66 4))]) : va_E) := by
  rw [T_66, en_ob]
  rfl
theorem en_67 {ad : Int → Nat} {cy : Nat → ClassId} {μ : QM} : q_ent ad cy μ 67 (q_T 67) = (.inr (4, [.ref (ad 77), .int (Int32.ofInt (μ 67 1)), .int (Int32.ofInt (μ 67 2)), .int (Int32.ofInt (μ 67 3)), .int (Int32.ofInt (μ 67 4))]) : va_E) := by
  rw [T_67, en_ob]
  rfl
theorem en_68 {ad : Int → Nat} {cy : Nat → ClassId} {μ : QM} : q_ent ad cy μ 68 (q_T 68) = (.inr (4, [.ref (ad 78), .int (Int32.ofInt (μ 68 1)), .int (Int32.ofInt (μ 68 2)), .int (Int32.ofInt (μ 68 3)), .int (Int32.ofInt (μ 68 4))]) : va_E) := by
  rw [T_68, en_ob]
  rfl
theorem en_69 {ad : Int → Nat} {cy : Nat → ClassId} {μ : QM} : q_ent ad cy μ 69 (q_T 69) = (.inr (4, [.ref (ad 79), .int (Int32.ofInt (μ 69 1)), .int (Int32.ofInt (μ 69 2)), .int (Int32.ofInt (μ 69 3)), .int (Int32.ofInt (μ 69 4))]) : va_E) := by
  rw [T_69, en_ob]
  rfl
theorem en_70 {ad : Int → Nat} {cy : Nat → ClassId} {μ : QM} : q_ent ad cy μ 70 (q_T 70) = (.inr (4, [.ref (ad 80), .int (Int32.ofInt (μ 70 1)), .int (Int32.ofInt (μ 70 2)), .int (Int32.ofInt (μ 70 3)), .int (Int32.ofInt (μ 70 4))]) : va_E) := by
  rw [T_70, en_ob]
  rfl
theorem en_71 {ad : Int → Nat} {cy : Nat → ClassId} {μ : QM} : q_ent ad cy μ 71 (q_T 71) = (.inr (4, [.ref (ad 81), .int (Int32.ofInt (μ 71 1)), .int (Int32.ofInt (μ 71 2)), .int (Int32.ofInt (μ 71 3)), .int (Int32.ofInt (μ 71 4))]) : va_E) := by
  rw [T_71, en_ob]
  rfl
theorem en_72 {ad : Int → Nat} {cy : Nat → ClassId} {μ : QM} : q_ent ad cy μ 72 (q_T 72) = (.inr (4, [.ref (ad 82), .int (Int32.ofInt (μ 72 1)), .int (Int32.ofInt (μ 72 2)), .int (Int32.ofInt (μ 72 3)), .int (Int32.ofInt (μ 72 4))]) : va_E) := by
  rw [T_72, en_ob]
  rfl
theorem en_73 {ad : Int → Nat} {cy : Nat → ClassId} {μ : QM} : q_ent ad cy μ 73 (q_T 73) = (.inr (4, [.ref (ad 83), .int (Int32.ofInt (μ 73 1)), .int (Int32.ofInt (μ 73 2)), .int (Int32.ofInt (μ 73 3)), .int (Int32.ofInt (μ 73 4))]) : va_E) := by
  rw [T_73, en_ob]
  rfl
theorem en_74 {ad : Int → Nat} {cy : Nat → ClassId} {μ : QM} : q_ent ad cy μ 74 (q_T 74) = (.inr (4, [.ref (ad 84), .int (Int32.ofInt (μ 74 1)), .int (Int32.ofInt (μ 74 2)), .int (Int32.ofInt (μ 74 3)), .int (Int32.ofInt (μ 74 4))]) : va_E) := by
  rw [T_74, en_ob]
  rfl
theorem en_75 {ad : Int → Nat} {cy : Nat → ClassId} {μ : QM} : q_ent ad cy μ 75 (q_T 75) = (.inl (cy 0, 3, .inl (fun j => Int32.ofInt (μ 75 j))) : va_E) := by
  rw [T_75]
  rfl
theorem en_76 {ad : Int → Nat} {cy : Nat → ClassId} {μ : QM} : q_ent ad cy μ 76 (q_T 76) = (.inl (cy 0, 3, .inl (fun j => Int32.ofInt (μ 76 j))) : va_E) := by
  rw [T_76]
  rfl
theorem en_77 {ad : Int → Nat} {cy : Nat → ClassId} {μ : QM} : q_ent ad cy μ 77 (q_T 77) = (.inl (cy 0, 3, .inl (fun j => Int32.ofInt (μ 77 j))) : va_E) := by
  rw [T_77]
  rfl
theorem en_78 {ad : Int → Nat} {cy : Nat → ClassId} {μ : QM} : q_ent ad cy μ 78 (q_T 78) = (.inl (cy 0, 3, .inl (fun j => Int32.ofInt (μ 78 j))) : va_E) := by
  rw [T_78]
  rfl
theorem en_79 {ad : Int → Nat} {cy : Nat → ClassId} {μ : QM} : q_ent ad cy μ 79 (q_T 79) = (.inl (cy 0, 3, .inl (fun j => Int32.ofInt (μ 79 j))) : va_E) := by
  rw [T_79]
  rfl
theorem en_80 {ad : Int → Nat} {cy : Nat → ClassId} {μ : QM} : q_ent ad cy μ 80 (q_T 80) = (.inl (cy 0, 3, .inl (fun j => Int32.ofInt (μ 80 j))) : va_E) := by
  rw [T_80]
  rfl
theorem en_81 {ad : Int → Nat} {cy : Nat → ClassId} {μ : QM} : q_ent ad cy μ 81 (q_T 81) = (.inl (cy 0, 3, .inl (fun j => Int32.ofInt (μ 81 j))) : va_E) := by
  rw [T_81]
  rfl
theorem en_82 {ad : Int → Nat} {cy : Nat → ClassId} {μ : QM} : q_ent ad cy μ 82 (q_T 82) = (.inl (cy 0, 3, .inl (fun j => Int32.ofInt (μ 82 j))) : va_E) := by
  rw [T_82]
  rfl
theorem en_83 {ad : Int → Nat} {cy : Nat → ClassId} {μ : QM} : q_ent ad cy μ 83 (q_T 83) = (.inl (cy 0, 3, .inl (fun j => Int32.ofInt (μ 83 j))) : va_E) := by
  rw [T_83]
  rfl
theorem en_84 {ad : Int → Nat} {cy : Nat → ClassId} {μ : QM} : q_ent ad cy μ 84 (q_T 84) = (.inl (cy 0, 3, .inl (fun j => Int32.ofInt (μ 84 j))) : va_E) := by
  rw [T_84]
  rfl
theorem en_85 {ad : Int → Nat} {cy : Nat → ClassId} {μ : QM} : q_ent ad cy μ 85 (q_T 85) = (.inr (11, [.int (Int32.ofInt (μ 85 0)), .int (Int32.ofInt (μ 85 1)), .int (Int32.ofInt (μ 85 2)), .int (Int32.ofInt (μ 85 3)), .ref (ad 86), .ref (ad 87), .ref (ad 88), .int (Int32.ofInt (μ 85 7)), .ref (ad 89), .ref (ad 90), .ref (ad 91), .ref (ad 92), .ref (ad 93), .ref (ad 94), .int (Int32.ofInt (μ 85 14)), .ref (ad 95), .ref (ad 96), .int (Int32.ofInt (μ 85 17)), .long (Int64.ofInt (μ 85 18)), .long (Int64.ofInt (μ 85 19)), .long (Int64.ofInt (μ 85 20)), .ref (ad 97), .ref (ad 98), .int (Int32.ofInt (μ 85 23)), .ref (ad 99), .ref (ad 100), .ref (ad 101), .ref (ad 102), .ref (ad 103), .ref (ad 104), .ref (ad 105), .int (Int32.ofInt (μ 85 31)), .int (Int32.ofInt (μ 85 32)), .int (Int32.ofInt (μ 85 33)), .int (Int32.ofInt (μ 85 34)), .long (Int64.ofInt (μ 85 35)), .int (Int32.ofInt (μ 85 36)), .int (Int32.ofInt (μ 85 37))]) : va_E) := by
  rw [T_85, en_ob]
  rfl
theorem en_86 {ad : Int → Nat} {cy : Nat → ClassId} {μ : QM} : q_ent ad cy μ 86 (q_T 86) = (.inl (cy 0, 576, .inl (fun j => Int32.ofInt (μ 86 j))) : va_E) := by
  rw [T_86]
  rfl
theorem en_87 {ad : Int → Nat} {cy : Nat → ClassId} {μ : QM} : q_ent ad cy μ 87 (q_T 87) = (.inl (cy 0, 1728, .inl (fun j => Int32.ofInt (μ 87 j))) : va_E) := by
  rw [T_87]
  rfl
theorem en_88 {ad : Int → Nat} {cy : Nat → ClassId} {μ : QM} : q_ent ad cy μ 88 (q_T 88) = (.inl (cy 2, 3, .inl (fun j => Int32.ofInt (μ 88 j))) : va_E) := by
  rw [T_88]
  rfl
theorem en_89 {ad : Int → Nat} {cy : Nat → ClassId} {μ : QM} : q_ent ad cy μ 89 (q_T 89) = (.inl (cy 0, 10, .inl (fun j => Int32.ofInt (μ 89 j))) : va_E) := by
  rw [T_89]
  rfl
theorem en_90 {ad : Int → Nat} {cy : Nat → ClassId} {μ : QM} : q_ent ad cy μ 90 (q_T 90) = (.inl (cy 0, 10, .inl (fun j => Int32.ofInt (μ 90 j))) : va_E) := by
  rw [T_90]
  rfl
theorem en_91 {ad : Int → Nat} {cy : Nat → ClassId} {μ : QM} : q_ent ad cy μ 91 (q_T 91) = (.inl (cy 0, 10, .inl (fun j => Int32.ofInt (μ 91 j))) : va_E) := by
  rw [T_91]
  rfl
theorem en_92 {ad : Int → Nat} {cy : Nat → ClassId} {μ : QM} : q_ent ad cy μ 92 (q_T 92) = (.inl (cy 0, 30, .inl (fun j => Int32.ofInt (μ 92 j))) : va_E) := by
  rw [T_92]
  rfl
theorem en_93 {ad : Int → Nat} {cy : Nat → ClassId} {μ : QM} : q_ent ad cy μ 93 (q_T 93) = (.inl (cy 0, 10, .inl (fun j => Int32.ofInt (μ 93 j))) : va_E) := by
  rw [T_93]
  rfl
theorem en_94 {ad : Int → Nat} {cy : Nat → ClassId} {μ : QM} : q_ent ad cy μ 94 (q_T 94) = (.inl (cy 2, 90, .inl (fun j => Int32.ofInt (μ 94 j))) : va_E) := by
  rw [T_94]
  rfl
theorem en_95 {ad : Int → Nat} {cy : Nat → ClassId} {μ : QM} : q_ent ad cy μ 95 (q_T 95) = (.inl (cy 0, 100, .inl (fun j => Int32.ofInt (μ 95 j))) : va_E) := by
  rw [T_95]
  rfl
theorem en_96 {ad : Int → Nat} {cy : Nat → ClassId} {μ : QM} : q_ent ad cy μ 96 (q_T 96) = (.inl (cy 0, 1440, .inl (fun j => Int32.ofInt (μ 96 j))) : va_E) := by
  rw [T_96]
  rfl
theorem en_97 {ad : Int → Nat} {cy : Nat → ClassId} {μ : QM} : q_ent ad cy μ 97 (q_T 97) = (.inl (cy 1, 144, .inr (.inl (fun j => Int64.ofInt (μ 97 j)))) : va_E) := by
  rw [T_97]
  rfl
theorem en_98 {ad : Int → Nat} {cy : Nat → ClassId} {μ : QM} : q_ent ad cy μ 98 (q_T 98) = (.inl (cy 0, 144, .inl (fun j => Int32.ofInt (μ 98 j))) : va_E) := by
  rw [T_98]
  rfl
theorem en_99 {ad : Int → Nat} {cy : Nat → ClassId} {μ : QM} : q_ent ad cy μ 99 (q_T 99) = (.inl (cy 0, 10, .inl (fun j => Int32.ofInt (μ 99 j))) : va_E) := by
  rw [T_99]
  rfl
theorem en_100 {ad : Int → Nat} {cy : Nat → ClassId} {μ : QM} : q_ent ad cy μ 100 (q_T 100) = (.inl (cy 0, 10, .inl (fun j => Int32.ofInt (μ 100 j))) : va_E) := by
  rw [T_100]
  rfl
theorem en_101 {ad : Int → Nat} {cy : Nat → ClassId} {μ : QM} : q_ent ad cy μ 101 (q_T 101) = (.inl (cy 0, 10, .inl (fun j => Int32.ofInt (μ 101 j))) : va_E) := by
  rw [T_101]
  rfl
theorem en_102 {ad : Int → Nat} {cy : Nat → ClassId} {μ : QM} : q_ent ad cy μ 102 (q_T 102) = (.inl (cy 0, 30, .inl (fun j => Int32.ofInt (μ 102 j))) : va_E) := by
  rw [T_102]
  rfl
theorem en_103 {ad : Int → Nat} {cy : Nat → ClassId} {μ : QM} : q_ent ad cy μ 103 (q_T 103) = (.inl (cy 0, 10, .inl (fun j => Int32.ofInt (μ 103 j))) : va_E) := by
  rw [T_103]
  rfl
theorem en_104 {ad : Int → Nat} {cy : Nat → ClassId} {μ : QM} : q_ent ad cy μ 104 (q_T 104) = (.inl (cy 0, 26, .inl (fun j => Int32.ofInt (μ 104 j))) : va_E) := by
  rw [T_104]
  rfl
theorem en_105 {ad : Int → Nat} {cy : Nat → ClassId} {μ : QM} : q_ent ad cy μ 105 (q_T 105) = (.inl (cy 0, 300, .inl (fun j => Int32.ofInt (μ 105 j))) : va_E) := by
  rw [T_105]
  rfl
theorem ez_i : Int32.ofInt 0 = 0 := by decide +kernel
theorem ez_l : Int64.ofInt 0 = 0 := by decide +kernel
theorem ez_m : Int32.ofInt (-1) = -1 := by decide +kernel
theorem ez_8 : Int32.ofInt 8 = 8 := by decide +kernel

