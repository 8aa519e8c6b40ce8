/-! class and reference, call by call: size -/
theorem sz_e (μ : QM) (w' h' : Int) : ∀ a j : Int, ¬ a = 1 → ¬ (4 ≤ a ∧ a < 8) → ¬ a = 12 → ¬ a = 21 → ¬ (24 ≤ a ∧ a < 34) → ¬ (a = 0 ∧ j = 8) → ¬ (a = 85 ∧ (j = 0 ∨ j = 1 ∨ j = 2 ∨ j = 3)) → ¬ a = 86 → ¬ a = 88 → ¬ a = 94 → (q_up (q_fill (q_fill (q_fill (q_up (q_up (q_up (q_up (q_rows (q_fill (q_fill (q_rows (q_up (q_up (q_up μ 1 0 w') 1 1 h') 1 2 (q_tm w' h')) 4 4 196 (-2000000000)) 12 0 3 0) 21 0 10 0) 24 10 196 (-2000000000)) 0 8 0) 85 0 0) 85 2 w') 85 3 h') 86 0 576 (-2000000000)) 88 0 3 0) 94 0 90 0) 85 1 0) a j = μ a j := fun a j n1 n2 n3 n4 n5 n6 n7 n8 n9 n10 => by
  rw [u_app, if_neg (by omega), u_fill, if_neg (by omega), u_fill, if_neg (by omega), u_fill, if_neg (by omega), u_app, if_neg (by omega), u_app, if_neg (by omega), u_app, if_neg (by omega), u_app, if_neg (by omega), u_rows, if_neg (by omega), u_fill, if_neg (by omega), u_fill, if_neg (by omega), u_rows, if_neg (by omega), u_app, if_neg (by omega), u_app, if_neg (by omega), u_app, if_neg (by omega)]
theorem sz_v10 (μ : QM) (w' h' : Int) : (q_up (q_fill (q_fill (q_fill (q_up (q_up (q_up (q_up (q_rows (q_fill (q_fill (q_rows (q_up (q_up (q_up μ 1 0 w') 1 1 h') 1 2 (q_tm w' h')) 4 4 196 (-2000000000)) 12 0 3 0) 21 0 10 0) 24 10 196 (-2000000000)) 0 8 0) 85 0 0) 85 2 w') 85 3 h') 86 0 576 (-2000000000)) 88 0 3 0) 94 0 90 0) 85 1 0) 1 0 = w' := by
  rw [u_app, if_neg (by omega), u_fill, if_neg (by omega), u_fill, if_neg (by omega), u_fill, if_neg (by omega), u_app, if_neg (by omega), u_app, if_neg (by omega), u_app, if_neg (by omega), u_app, if_neg (by omega), u_rows, if_neg (by omega), u_fill, if_neg (by omega), u_fill, if_neg (by omega), u_rows, if_neg (by omega), u_app, if_neg (by omega), u_app, if_neg (by omega), u_app, if_pos (by omega)]
theorem sz_v11 (μ : QM) (w' h' : Int) : (q_up (q_fill (q_fill (q_fill (q_up (q_up (q_up (q_up (q_rows (q_fill (q_fill (q_rows (q_up (q_up (q_up μ 1 0 w') 1 1 h') 1 2 (q_tm w' h')) 4 4 196 (-2000000000)) 12 0 3 0) 21 0 10 0) 24 10 196 (-2000000000)) 0 8 0) 85 0 0) 85 2 w') 85 3 h') 86 0 576 (-2000000000)) 88 0 3 0) 94 0 90 0) 85 1 0) 1 1 = h' := by
  rw [u_app, if_neg (by omega), u_fill, if_neg (by omega), u_fill, if_neg (by omega), u_fill, if_neg (by omega), u_app, if_neg (by omega), u_app, if_neg (by omega), u_app, if_neg (by omega), u_app, if_neg (by omega), u_rows, if_neg (by omega), u_fill, if_neg (by omega), u_fill, if_neg (by omega), u_rows, if_neg (by omega), u_app, if_neg (by omega), u_app, if_pos (by omega)]
theorem sz_v12 (μ : QM) (w' h' : Int) : (q_up (q_fill (q_fill (q_fill (q_up (q_up (q_up (q_up (q_rows (q_fill (q_fill (q_rows (q_up (q_up (q_up μ 1 0 w') 1 1 h') 1 2 (q_tm w' h')) 4 4 196 (-2000000000)) 12 0 3 0) 21 0 10 0) 24 10 196 (-2000000000)) 0 8 0) 85 0 0) 85 2 w') 85 3 h') 86 0 576 (-2000000000)) 88 0 3 0) 94 0 90 0) 85 1 0) 1 2 = q_tm w' h' := by
  rw [u_app, if_neg (by omega), u_fill, if_neg (by omega), u_fill, if_neg (by omega), u_fill, if_neg (by omega), u_app, if_neg (by omega), u_app, if_neg (by omega), u_app, if_neg (by omega), u_app, if_neg (by omega), u_rows, if_neg (by omega), u_fill, if_neg (by omega), u_fill, if_neg (by omega), u_rows, if_neg (by omega), u_app, if_pos (by omega)]
theorem sz_v4 (μ : QM) (w' h' : Int) : ∀ s j : Int, 0 ≤ s → s < 4 → 0 ≤ j → j < 196 → (q_up (q_fill (q_fill (q_fill (q_up (q_up (q_up (q_up (q_rows (q_fill (q_fill (q_rows (q_up (q_up (q_up μ 1 0 w') 1 1 h') 1 2 (q_tm w' h')) 4 4 196 (-2000000000)) 12 0 3 0) 21 0 10 0) 24 10 196 (-2000000000)) 0 8 0) 85 0 0) 85 2 w') 85 3 h') 86 0 576 (-2000000000)) 88 0 3 0) 94 0 90 0) 85 1 0) (4 + s) j = -2000000000 := fun s j s0 s1 j0 j1 => by
  rw [u_app, if_neg (by omega), u_fill, if_neg (by omega), u_fill, if_neg (by omega), u_fill, if_neg (by omega), u_app, if_neg (by omega), u_app, if_neg (by omega), u_app, if_neg (by omega), u_app, if_neg (by omega), u_rows, if_neg (by omega), u_fill, if_neg (by omega), u_fill, if_neg (by omega), u_rows, if_pos (by omega)]
theorem sz_v12k (μ : QM) (w' h' : Int) : ∀ k : Int, 0 ≤ k → k < 3 → (q_up (q_fill (q_fill (q_fill (q_up (q_up (q_up (q_up (q_rows (q_fill (q_fill (q_rows (q_up (q_up (q_up μ 1 0 w') 1 1 h') 1 2 (q_tm w' h')) 4 4 196 (-2000000000)) 12 0 3 0) 21 0 10 0) 24 10 196 (-2000000000)) 0 8 0) 85 0 0) 85 2 w') 85 3 h') 86 0 576 (-2000000000)) 88 0 3 0) 94 0 90 0) 85 1 0) 12 k = 0 := fun k k0 k1 => by
  rw [u_app, if_neg (by omega), u_fill, if_neg (by omega), u_fill, if_neg (by omega), u_fill, if_neg (by omega), u_app, if_neg (by omega), u_app, if_neg (by omega), u_app, if_neg (by omega), u_app, if_neg (by omega), u_rows, if_neg (by omega), u_fill, if_neg (by omega), u_fill, if_pos (by omega)]
theorem sz_v21 (μ : QM) (w' h' : Int) : ∀ b : Int, 0 ≤ b → b < 10 → (q_up (q_fill (q_fill (q_fill (q_up (q_up (q_up (q_up (q_rows (q_fill (q_fill (q_rows (q_up (q_up (q_up μ 1 0 w') 1 1 h') 1 2 (q_tm w' h')) 4 4 196 (-2000000000)) 12 0 3 0) 21 0 10 0) 24 10 196 (-2000000000)) 0 8 0) 85 0 0) 85 2 w') 85 3 h') 86 0 576 (-2000000000)) 88 0 3 0) 94 0 90 0) 85 1 0) 21 b = 0 := fun b b0 b1 => by
  rw [u_app, if_neg (by omega), u_fill, if_neg (by omega), u_fill, if_neg (by omega), u_fill, if_neg (by omega), u_app, if_neg (by omega), u_app, if_neg (by omega), u_app, if_neg (by omega), u_app, if_neg (by omega), u_rows, if_neg (by omega), u_fill, if_pos (by omega)]
theorem sz_v24 (μ : QM) (w' h' : Int) : ∀ b j : Int, 0 ≤ b → b < 10 → 0 ≤ j → j < 196 → (q_up (q_fill (q_fill (q_fill (q_up (q_up (q_up (q_up (q_rows (q_fill (q_fill (q_rows (q_up (q_up (q_up μ 1 0 w') 1 1 h') 1 2 (q_tm w' h')) 4 4 196 (-2000000000)) 12 0 3 0) 21 0 10 0) 24 10 196 (-2000000000)) 0 8 0) 85 0 0) 85 2 w') 85 3 h') 86 0 576 (-2000000000)) 88 0 3 0) 94 0 90 0) 85 1 0) (24 + b) j = -2000000000 := fun b j b0 b1 j0 j1 => by
  rw [u_app, if_neg (by omega), u_fill, if_neg (by omega), u_fill, if_neg (by omega), u_fill, if_neg (by omega), u_app, if_neg (by omega), u_app, if_neg (by omega), u_app, if_neg (by omega), u_app, if_neg (by omega), u_rows, if_pos (by omega)]
theorem sz_v08 (μ : QM) (w' h' : Int) : (q_up (q_fill (q_fill (q_fill (q_up (q_up (q_up (q_up (q_rows (q_fill (q_fill (q_rows (q_up (q_up (q_up μ 1 0 w') 1 1 h') 1 2 (q_tm w' h')) 4 4 196 (-2000000000)) 12 0 3 0) 21 0 10 0) 24 10 196 (-2000000000)) 0 8 0) 85 0 0) 85 2 w') 85 3 h') 86 0 576 (-2000000000)) 88 0 3 0) 94 0 90 0) 85 1 0) 0 8 = 0 := by
  rw [u_app, if_neg (by omega), u_fill, if_neg (by omega), u_fill, if_neg (by omega), u_fill, if_neg (by omega), u_app, if_neg (by omega), u_app, if_neg (by omega), u_app, if_neg (by omega), u_app, if_pos (by omega)]
theorem sz_v852 (μ : QM) (w' h' : Int) : (q_up (q_fill (q_fill (q_fill (q_up (q_up (q_up (q_up (q_rows (q_fill (q_fill (q_rows (q_up (q_up (q_up μ 1 0 w') 1 1 h') 1 2 (q_tm w' h')) 4 4 196 (-2000000000)) 12 0 3 0) 21 0 10 0) 24 10 196 (-2000000000)) 0 8 0) 85 0 0) 85 2 w') 85 3 h') 86 0 576 (-2000000000)) 88 0 3 0) 94 0 90 0) 85 1 0) 85 2 = w' := by
  rw [u_app, if_neg (by omega), u_fill, if_neg (by omega), u_fill, if_neg (by omega), u_fill, if_neg (by omega), u_app, if_neg (by omega), u_app, if_pos (by omega)]
theorem sz_v853 (μ : QM) (w' h' : Int) : (q_up (q_fill (q_fill (q_fill (q_up (q_up (q_up (q_up (q_rows (q_fill (q_fill (q_rows (q_up (q_up (q_up μ 1 0 w') 1 1 h') 1 2 (q_tm w' h')) 4 4 196 (-2000000000)) 12 0 3 0) 21 0 10 0) 24 10 196 (-2000000000)) 0 8 0) 85 0 0) 85 2 w') 85 3 h') 86 0 576 (-2000000000)) 88 0 3 0) 94 0 90 0) 85 1 0) 85 3 = h' := by
  rw [u_app, if_neg (by omega), u_fill, if_neg (by omega), u_fill, if_neg (by omega), u_fill, if_neg (by omega), u_app, if_pos (by omega)]
theorem sz_v851 (μ : QM) (w' h' : Int) : (q_up (q_fill (q_fill (q_fill (q_up (q_up (q_up (q_up (q_rows (q_fill (q_fill (q_rows (q_up (q_up (q_up μ 1 0 w') 1 1 h') 1 2 (q_tm w' h')) 4 4 196 (-2000000000)) 12 0 3 0) 21 0 10 0) 24 10 196 (-2000000000)) 0 8 0) 85 0 0) 85 2 w') 85 3 h') 86 0 576 (-2000000000)) 88 0 3 0) 94 0 90 0) 85 1 0) 85 1 = 0 := by
  rw [u_app, if_pos (by omega)]
theorem sz_v86 (μ : QM) (w' h' : Int) : ∀ j : Int, 0 ≤ j → j < 576 → (q_up (q_fill (q_fill (q_fill (q_up (q_up (q_up (q_up (q_rows (q_fill (q_fill (q_rows (q_up (q_up (q_up μ 1 0 w') 1 1 h') 1 2 (q_tm w' h')) 4 4 196 (-2000000000)) 12 0 3 0) 21 0 10 0) 24 10 196 (-2000000000)) 0 8 0) 85 0 0) 85 2 w') 85 3 h') 86 0 576 (-2000000000)) 88 0 3 0) 94 0 90 0) 85 1 0) 86 j = -2000000000 := fun j j0 j1 => by
  rw [u_app, if_neg (by omega), u_fill, if_neg (by omega), u_fill, if_neg (by omega), u_fill, if_pos (by omega)]
theorem sz_v88 (μ : QM) (w' h' : Int) : ∀ j : Int, 0 ≤ j → j < 3 → (q_up (q_fill (q_fill (q_fill (q_up (q_up (q_up (q_up (q_rows (q_fill (q_fill (q_rows (q_up (q_up (q_up μ 1 0 w') 1 1 h') 1 2 (q_tm w' h')) 4 4 196 (-2000000000)) 12 0 3 0) 21 0 10 0) 24 10 196 (-2000000000)) 0 8 0) 85 0 0) 85 2 w') 85 3 h') 86 0 576 (-2000000000)) 88 0 3 0) 94 0 90 0) 85 1 0) 88 j = 0 := fun j j0 j1 => by
  rw [u_app, if_neg (by omega), u_fill, if_neg (by omega), u_fill, if_pos (by omega)]
theorem sz_v94 (μ : QM) (w' h' : Int) : ∀ j : Int, 0 ≤ j → j < 90 → (q_up (q_fill (q_fill (q_fill (q_up (q_up (q_up (q_up (q_rows (q_fill (q_fill (q_rows (q_up (q_up (q_up μ 1 0 w') 1 1 h') 1 2 (q_tm w' h')) 4 4 196 (-2000000000)) 12 0 3 0) 21 0 10 0) 24 10 196 (-2000000000)) 0 8 0) 85 0 0) 85 2 w') 85 3 h') 86 0 576 (-2000000000)) 88 0 3 0) 94 0 90 0) 85 1 0) 94 j = 0 := fun j j0 j1 => by
  rw [u_app, if_neg (by omega), u_fill, if_pos (by omega)]
theorem sz_v86n (μ : QM) (w' h' : Int) : ∀ j : Int, j < 0 ∨ 576 ≤ j → (q_up (q_fill (q_fill (q_fill (q_up (q_up (q_up (q_up (q_rows (q_fill (q_fill (q_rows (q_up (q_up (q_up μ 1 0 w') 1 1 h') 1 2 (q_tm w' h')) 4 4 196 (-2000000000)) 12 0 3 0) 21 0 10 0) 24 10 196 (-2000000000)) 0 8 0) 85 0 0) 85 2 w') 85 3 h') 86 0 576 (-2000000000)) 88 0 3 0) 94 0 90 0) 85 1 0) 86 j = μ 86 j := fun j jq => by
  rw [u_app, if_neg (by omega), u_fill, if_neg (by omega), u_fill, if_neg (by omega), u_fill, if_neg (by omega), u_app, if_neg (by omega), u_app, if_neg (by omega), u_app, if_neg (by omega), u_app, if_neg (by omega), u_rows, if_neg (by omega), u_fill, if_neg (by omega), u_fill, if_neg (by omega), u_rows, if_neg (by omega), u_app, if_neg (by omega), u_app, if_neg (by omega), u_app, if_neg (by omega)]
theorem sz_v88n (μ : QM) (w' h' : Int) : ∀ j : Int, j < 0 ∨ 3 ≤ j → (q_up (q_fill (q_fill (q_fill (q_up (q_up (q_up (q_up (q_rows (q_fill (q_fill (q_rows (q_up (q_up (q_up μ 1 0 w') 1 1 h') 1 2 (q_tm w' h')) 4 4 196 (-2000000000)) 12 0 3 0) 21 0 10 0) 24 10 196 (-2000000000)) 0 8 0) 85 0 0) 85 2 w') 85 3 h') 86 0 576 (-2000000000)) 88 0 3 0) 94 0 90 0) 85 1 0) 88 j = μ 88 j := fun j jq => by
  rw [u_app, if_neg (by omega), u_fill, if_neg (by omega), u_fill, if_neg (by omega), u_fill, if_neg (by omega), u_app, if_neg (by omega), u_app, if_neg (by omega), u_app, if_neg (by omega), u_app, if_neg (by omega), u_rows, if_neg (by omega), u_fill, if_neg (by omega), u_fill, if_neg (by omega), u_rows, if_neg (by omega), u_app, if_neg (by omega), u_app, if_neg (by omega), u_app, if_neg (by omega)]
theorem sz_v94n (μ : QM) (w' h' : Int) : ∀ j : Int, j < 0 ∨ 90 ≤ j → (q_up (q_fill (q_fill (q_fill (q_up (q_up (q_up (q_up (q_rows (q_fill (q_fill (q_rows (q_up (q_up (q_up μ 1 0 w') 1 1 h') 1 2 (q_tm w' h')) 4 4 196 (-2000000000)) 12 0 3 0) 21 0 10 0) 24 10 196 (-2000000000)) 0 8 0) 85 0 0) 85 2 w') 85 3 h') 86 0 576 (-2000000000)) 88 0 3 0) 94 0 90 0) 85 1 0) 94 j = μ 94 j := fun j jq => by
  rw [u_app, if_neg (by omega), u_fill, if_neg (by omega), u_fill, if_neg (by omega), u_fill, if_neg (by omega), u_app, if_neg (by omega), u_app, if_neg (by omega), u_app, if_neg (by omega), u_app, if_neg (by omega), u_rows, if_neg (by omega), u_fill, if_neg (by omega), u_fill, if_neg (by omega), u_rows, if_neg (by omega), u_app, if_neg (by omega), u_app, if_neg (by omega), u_app, if_neg (by omega)]
def sz_f (μ ν : QM) (w' h' : Int) : Prop := (∀ a j : Int, ¬ a = 1 → ¬ (4 ≤ a ∧ a < 8) → ¬ a = 12 → ¬ a = 21 → ¬ (24 ≤ a ∧ a < 34) → ¬ (a = 0 ∧ j = 8) → ¬ (a = 85 ∧ (j = 0 ∨ j = 1 ∨ j = 2 ∨ j = 3)) → ¬ a = 86 → ¬ a = 88 → ¬ a = 94 → ν a j = μ a j) ∧ (ν 1 0 = w') ∧ (ν 1 1 = h') ∧ (ν 1 2 = q_tm w' h') ∧ (∀ s j : Int, 0 ≤ s → s < 4 → 0 ≤ j → j < 196 → ν (4 + s) j = -2000000000) ∧ (∀ k : Int, 0 ≤ k → k < 3 → ν 12 k = 0) ∧ (∀ b : Int, 0 ≤ b → b < 10 → ν 21 b = 0) ∧ (∀ b j : Int, 0 ≤ b → b < 10 → 0 ≤ j → j < 196 → ν (24 + b) j = -2000000000) ∧ (ν 0 8 = 0) ∧ (ν 85 2 = w') ∧ (ν 85 3 = h') ∧ (ν 85 1 = 0) ∧ (∀ j : Int, 0 ≤ j → j < 576 → ν 86 j = -2000000000) ∧ (∀ j : Int, 0 ≤ j → j < 3 → ν 88 j = 0) ∧ (∀ j : Int, 0 ≤ j → j < 90 → ν 94 j = 0) ∧ (∀ j : Int, j < 0 ∨ 576 ≤ j → ν 86 j = μ 86 j) ∧ (∀ j : Int, j < 0 ∨ 3 ≤ j → ν 88 j = μ 88 j) ∧ (∀ j : Int, j < 0 ∨ 90 ≤ j → ν 94 j = μ 94 j)
theorem sz_mem (μ : QM) (w' h' : Int) : sz_f μ (q_up (q_fill (q_fill (q_fill (q_up (q_up (q_up (q_up (q_rows (q_fill (q_fill (q_rows (q_up (q_up (q_up μ 1 0 w') 1 1 h') 1 2 (q_tm w' h')) 4 4 196 (-2000000000)) 12 0 3 0) 21 0 10 0) 24 10 196 (-2000000000)) 0 8 0) 85 0 0) 85 2 w') 85 3 h') 86 0 576 (-2000000000)) 88 0 3 0) 94 0 90 0) 85 1 0) w' h' := ⟨sz_e μ w' h', sz_v10 μ w' h', sz_v11 μ w' h', sz_v12 μ w' h', sz_v4 μ w' h', sz_v12k μ w' h', sz_v21 μ w' h', sz_v24 μ w' h', sz_v08 μ w' h', sz_v852 μ w' h', sz_v853 μ w' h', sz_v851 μ w' h', sz_v86 μ w' h', sz_v88 μ w' h', sz_v94 μ w' h', sz_v86n μ w' h', sz_v88n μ w' h', sz_v94n μ w' h'⟩
theorem szf_e {μ ν : QM} {w' h' : Int} (hf : sz_f μ ν w' h') : ∀ a j : Int, ¬ a = 1 → ¬ (4 ≤ a ∧ a < 8) → ¬ a = 12 → ¬ a = 21 → ¬ (24 ≤ a ∧ a < 34) → ¬ (a = 0 ∧ j = 8) → ¬ (a = 85 ∧ (j = 0 ∨ j = 1 ∨ j = 2 ∨ j = 3)) → ¬ a = 86 → ¬ a = 88 → ¬ a = 94 → ν a j = μ a j := hf.1
theorem szf_v10 {μ ν : QM} {w' h' : Int} (hf : sz_f μ ν w' h') : ν 1 0 = w' := hf.2.1
theorem szf_v11 {μ ν : QM} {w' h' : Int} (hf : sz_f μ ν w' h') : ν 1 1 = h' := hf.2.2.1
theorem szf_v12 {μ ν : QM} {w' h' : Int} (hf : sz_f μ ν w' h') : ν 1 2 = q_tm w' h' := hf.2.2.2.1
theorem szf_v4 {μ ν : QM} {w' h' : Int} (hf : sz_f μ ν w' h') : ∀ s j : Int, 0 ≤ s → s < 4 → 0 ≤ j → j < 196 → ν (4 + s) j = -2000000000 := hf.2.2.2.2.1
theorem szf_v12k {μ ν : QM} {w' h' : Int} (hf : sz_f μ ν w' h') : ∀ k : Int, 0 ≤ k → k < 3 → ν 12 k = 0 := hf.2.2.2.2.2.1
theorem szf_v21 {μ ν : QM} {w' h' : Int} (hf : sz_f μ ν w' h') : ∀ b : Int, 0 ≤ b → b < 10 → ν 21 b = 0 := hf.2.2.2.2.2.2.1
theorem szf_v24 {μ ν : QM} {w' h' : Int} (hf : sz_f μ ν w' h') : ∀ b j : Int, 0 ≤ b → b < 10 → 0 ≤ j → j < 196 → ν (24 + b) j = -2000000000 := hf.2.2.2.2.2.2.2.1
theorem szf_v08 {μ ν : QM} {w' h' : Int} (hf : sz_f μ ν w' h') : ν 0 8 = 0 := hf.2.2.2.2.2.2.2.2.1
theorem szf_v852 {μ ν : QM} {w' h' : Int} (hf : sz_f μ ν w' h') : ν 85 2 = w' := hf.2.2.2.2.2.2.2.2.2.1
theorem szf_v853 {μ ν : QM} {w' h' : Int} (hf : sz_f μ ν w' h') : ν 85 3 = h' := hf.2.2.2.2.2.2.2.2.2.2.1
theorem szf_v851 {μ ν : QM} {w' h' : Int} (hf : sz_f μ ν w' h') : ν 85 1 = 0 := hf.2.2.2.2.2.2.2.2.2.2.2.1
theorem szf_v86 {μ ν : QM} {w' h' : Int} (hf : sz_f μ ν w' h') : ∀ j : Int, 0 ≤ j → j < 576 → ν 86 j = -2000000000 := hf.2.2.2.2.2.2.2.2.2.2.2.2.1
theorem szf_v88 {μ ν : QM} {w' h' : Int} (hf : sz_f μ ν w' h') : ∀ j : Int, 0 ≤ j → j < 3 → ν 88 j = 0 := hf.2.2.2.2.2.2.2.2.2.2.2.2.2.1
theorem szf_v94 {μ ν : QM} {w' h' : Int} (hf : sz_f μ ν w' h') : ∀ j : Int, 0 ≤ j → j < 90 → ν 94 j = 0 := hf.2.2.2.2.2.2.2.2.2.2.2.2.2.2.1
theorem szf_v86n {μ ν : QM} {w' h' : Int} (hf : sz_f μ ν w' h') : ∀ j : Int, j < 0 ∨ 576 ≤ j → ν 86 j = μ 86 j := hf.2.2.2.2.2.2.2.2.2.2.2.2.2.2.2.1
theorem szf_v88n {μ ν : QM} {w' h' : Int} (hf : sz_f μ ν w' h') : ∀ j : Int, j < 0 ∨ 3 ≤ j → ν 88 j = μ 88 j := hf.2.2.2.2.2.2.2.2.2.2.2.2.2.2.2.2.1
theorem szf_v94n {μ ν : QM} {w' h' : Int} (hf : sz_f μ ν w' h') : ∀ j : Int, j < 0 ∨ 90 ≤ j → ν 94 j = μ 94 j := hf.2.2.2.2.2.2.2.2.2.2.2.2.2.2.2.2.2
theorem szf_f {μ ν : QM} {w' h' : Int} (hf : sz_f μ ν w' h') (a j : Int) (q : (a = 0 ∧ 5 ≤ j ∧ j ≤ 7) ∨ a = 13 ∨ a = 14 ∨ a = 20 ∨ a = 22 ∨ a = 36 ∨ (39 ≤ a ∧ a ≤ 84) ∨ (a = 85 ∧ 4 ≤ j) ∨ a = 87 ∨ (89 ≤ a ∧ a ≤ 93) ∨ a = 104 ∨ a = 105) : ν a j = μ a j := szf_e hf a j (by omega) (by omega) (by omega) (by omega) (by omega) (by omega) (by omega) (by omega) (by omega) (by omega)
theorem szf_nb {μ ν : QM} {w' h' : Int} (hf : sz_f μ ν w' h') (b : Int) (t : Nat) (b0 : 0 ≤ b) (b1 : b < 10) : ¬ q_bit (ν 21 b) t = true := fun q9 => by
  rw [szf_v21 hf b b0 b1, bt_0] at q9
  cases q9
theorem c_p_r {x y : Int} (h1 : -1 ≤ x) (h2 : x ≤ 12) (h3 : -1 ≤ y) (h4 : y ≤ 12) : 0 ≤ c_p x y ∧ c_p x y < 196 := by
  show 0 ≤ (y + 1) * 14 + x + 1 ∧ (y + 1) * 14 + x + 1 < 196
  omega
theorem sz_ok {P w h n : Int} {μ ν : QM} {w' h' : Int} (hd : m_dim w' h') (k1 : c_ok μ P w h n) (hf : sz_f μ ν w' h') : c_ok ν P w' h' n := by
  have hn := k1.1.2.2.2.2.2.2.2.1
  refine ⟨?_, ⟨fun i i0 i1 => ⟨fun u v u0 u1 v0 v1 _ => ?_, fun u v huv => ?_⟩, fun s u v s0 s1 huv => ?_⟩, ⟨fun b b0 b1 => ?_, fun b t b0 b1 q9 => absurd q9 (szf_nb hf b t b0 b1), fun b k t u b0 b1 q9 => absurd q9 (szf_nb hf b t b0 (by omega))⟩, fun b x y b0 b1 hxy st => ?_⟩
  · obtain ⟨hP, h5, -, ew, eh, et, hs, hn, hr⟩ := k1.1
    refine ⟨hP, (szf_f hf 20 5 (by omega)).trans h5, hd, szf_v10 hf, szf_v11 hf, szf_v12 hf, ?_, hn, fun b b0 b1 => ?_⟩
    · rw [c_sd, szf_f hf 36 _ (by omega), szf_f hf 36 _ (by omega), szf_f hf 36 _ (by omega), szf_f hf 36 _ (by omega)]
      exact hs
    · have := hr b b0 b1
      unfold c_ro at this ⊢
      have e1 : ∀ j : Int, ν (P + 3 + b) j = μ (P + 3 + b) j := fun j => szf_f hf _ j (by clear hr this; omega)
      have e2 : ∀ j : Int, ν (P + 3 + b + 10) j = μ (P + 3 + b + 10) j := fun j => szf_f hf _ j (by clear hr this; omega)
      simp only [e1, e2]
      exact this
  · have := c_p_r u0 u1 v0 v1
    exact szf_v24 hf i _ i0 i1 this.1 this.2
  · have := c_p_r (x := u) (y := v) (by omega) (by omega) (by omega) (by omega)
    show m_vr (ν (24 + i) (c_p u v))
    rw [szf_v24 hf i _ i0 i1 this.1 this.2]
    exact Or.inl rfl
  · have := c_p_r (x := u) (y := v) (by omega) (by omega) (by omega) (by omega)
    show m_vr (ν (4 + s) (c_p u v))
    rw [szf_v4 hf s _ s0 s1 this.1 this.2]
    exact Or.inl rfl
  · rw [szf_v21 hf b b0 b1]
    exact q_mk_0
  · by_cases cw : n_wh (c_kM ν P b)
    · exact absurd (szf_v21 hf b b0 (by omega)) (st.1 cw)
    · exact absurd (st.2 cw) (szf_nb hf b _ b0 (by omega))
theorem sz_J {P Q w h n : Int} {μ ν : QM} {w' h' : Int} (hd : m_dim w' h') (hj : J9 P Q w h n μ) (hf : sz_f μ ν w' h') : J9 P Q w' h' n ν := by
  obtain ⟨k1, ⟨⟨a1, a2, a3, a4⟩, ⟨a5, a6, a7, a8⟩, ⟨a9, a10⟩, -, a13, a14, a15⟩, ⟨s1, s2, s3, s4, s5⟩, k4, k5, k6⟩ := hj
  have hP := k1.1.1
  have hn := k1.1.2.2.2.2.2.2.2.1
  have v08 := szf_v08 hf
  have v851 := szf_v851 hf
  refine ⟨sz_ok hd k1 hf, ⟨⟨?_, ?_, a3, a4⟩, ⟨?_, ?_, szf_v852 hf, szf_v853 hf⟩, ⟨?_, ?_⟩, ⟨v08.trans v851.symm, by rw [v851]; decide⟩, ?_, fun j j0 j1 => ?_, fun j q => ?_⟩, ⟨fun s x y b0 b1 b2 b3 b4 b5 => ?_, fun s u v b0 b1 b2 b3 b4 b5 b6 => ?_, fun j => ⟨?_, ?_⟩, fun j => ?_, fun k b0 b1 => ⟨?_, fun q9 => ?_⟩⟩, j_t_cg (fun a j q => szf_f hf a j (by omega)) k4, j_p_jk hP a3 hn.2 (fun a j q => szf_f hf a j (by omega)) k5, ⟨fun b t b0 b1 t0 t1 => ?_, fun j => ?_⟩⟩
  · rw [szf_f hf 0 5 (by decide)]; exact a1
  · rw [szf_f hf 0 6 (by decide)]; exact a2
  · rw [szf_f hf P 2 (by omega)]; exact a5
  · rw [szf_f hf 85 7 (by decide)]; exact a6
  · rw [szf_f hf 0 7 (by decide), szf_f hf 85 36 (by decide)]; exact a9
  · rw [szf_f hf 85 36 (by decide)]; exact a10
  · rw [szf_f hf 20 6 (by decide), szf_f hf 85 14 (by decide)]; exact a13
  · rw [szf_f hf 22 j (by omega)]; exact a14 j j0 j1
  · rw [szf_f hf 104 j (by omega)]; exact a15 j q
  · have := c_p_r (x := x) (y := y) (by omega) (by omega) (by omega) (by omega)
    rw [szf_v4 hf s _ b0 b1 this.1 this.2, szf_v86 hf _ (by omega) (by omega)]
  · have := c_p_r b2 b3 b4 b5
    exact szf_v4 hf s _ b0 b1 this.1 this.2
  · by_cases c9 : 0 ≤ j ∧ j < 576
    · rw [szf_v86 hf j c9.1 c9.2]; decide
    · rw [szf_v86n hf j (by omega)]; exact (s3 j).1
  · rw [szf_f hf 87 j (by omega)]; exact (s3 j).2
  · by_cases c9 : 0 ≤ j ∧ j < 3
    · rw [szf_v88 hf j c9.1 c9.2]; exact Or.inl rfl
    · rw [szf_v88n hf j (by omega)]; exact s4 j
  · rw [szf_v12k hf k b0 b1, szf_v88 hf k b0 b1]
  · rw [szf_v88 hf k b0 b1] at q9
    exact absurd q9 (by decide)
  · rw [szf_v94 hf _ (by omega) (by omega)]
    exact (q_bf (szf_nb hf b _ b0 b1)).symm
  · by_cases c9 : 0 ≤ j ∧ j < 90
    · rw [szf_v94 hf j c9.1 c9.2]; exact Or.inl rfl
    · rw [szf_v94n hf j (by omega)]; exact k6.2 j
theorem J_size {c : Nat} {μ : QM} {w' h' : Int} (hw : q_r w') (hh : q_r h') (hJ : J c μ) : sp_X10_size ([.inl h', .inl w'] ++ [.inr (.inr 0)]) μ (j_E c sp_X11_size [.inl h', .inl w']) := by
  show sp_X10_size [.inl h', .inl w', .inr (.inr 0)] μ _
  rw [sp_X10_size_e]
  refine ⟨rfl, ⟨hw, hh⟩, ?_⟩
  by_cases q : (2 ≤ w' ∧ w' ≤ 12) ∧ 2 ≤ h' ∧ h' ≤ 12
  · rw [if_pos q]
    refine ⟨0, rfl, by decide, ?_⟩
    show sp_X11_size [.inl h', .inl w', .inr (.inr 85)] _ _
    rw [sp_X11_size_e, if_pos q]
    refine ⟨rfl, ⟨hw, hh⟩, rfl, ?_⟩
    obtain ⟨h1, P, Q, w, h, n, hj⟩ := hJ
    have hf := sz_mem μ w' h'
    exact ⟨by rw [szf_f hf 85 14 (by decide)]; omega, P, Q, w', h', n, sz_J (by omega) hj hf⟩
  · rw [if_neg q]
    refine ⟨-1, rfl, by decide, ?_⟩
    show sp_X11_size [.inl h', .inl w', .inr (.inr 85)] _ _
    rw [sp_X11_size_e, if_neg q]
    exact ⟨rfl, ⟨hw, hh⟩, rfl, J_no (by decide) hJ⟩

