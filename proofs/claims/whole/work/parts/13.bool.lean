def q_b (c : Prop) [Decidable c] : Int := if c then 1 else 0
theorem e_b0 (c : Prop) [Decidable c] : (q_b c = 0) = ¬ c := by unfold q_b; by_cases h : c <;> simp [h]
theorem e_b1 (c : Prop) [Decidable c] : (q_b c = 1) = c := by unfold q_b; by_cases h : c <;> simp [h]
theorem e_bn (c : Prop) [Decidable c] : (q_b c = 0 ∨ q_b c = 1) = True := by unfold q_b; by_cases h : c <;> simp [h]
theorem e_bl (c : Prop) [Decidable c] : (-2147483648 ≤ q_b c) = True := by unfold q_b; by_cases h : c <;> simp [h]
theorem e_bu (c : Prop) [Decidable c] : (q_b c ≤ 2147483647) = True := by unfold q_b; by_cases h : c <;> simp [h]
theorem q_bt {c : Prop} [Decidable c] (h : c) : q_b c = 1 := if_pos h
theorem q_bf {c : Prop} [Decidable c] (h : ¬ c) : q_b c = 0 := if_neg h
theorem zero_ne_one : ((0 : Int) = 1) = False := by simp
theorem one_ne_zero : ((1 : Int) = 0) = False := by simp
theorem q_bc {c d : Prop} [Decidable c] [Decidable d] (h : c ↔ d) : q_b c = q_b d := by unfold q_b; by_cases x : c <;> simp [x, ← h]
theorem u_app (μ : QM) (a k z b j : Int) : q_up μ a k z b j = if b = a ∧ j = k then z else μ b j := id rfl
theorem q_mulR {a b : Int} (ha : q_r a) (hb : q_r b) : q_R (a * b) := by
  have h1 : (a * b).natAbs = a.natAbs * b.natAbs := Int.natAbs_mul a b
  have h2 : a.natAbs * b.natAbs ≤ 2147483648 * 2147483648 := Nat.mul_le_mul (by omega) (by omega)
  constructor <;> omega

