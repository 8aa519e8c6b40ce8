/-! both objects new: the invariant -/
theorem ka_v {a j : Int} (h : 24 ≤ a ∧ a < 34) (hj : 0 ≤ j ∧ j < 196) : k_all a j = -2000000000 := by
  unfold k_all
  rw [if_neg (by omega), if_neg (by omega), if_neg (by omega), if_neg (by omega), if_neg (by omega), if_pos (by omega)]
  unfold k_W q_rows
  exact if_pos ⟨h.1, by omega, hj.1, hj.2⟩
theorem ka_s {a j : Int} (h : 4 ≤ a ∧ a < 8) (hj : 0 ≤ j ∧ j < 196) : k_all a j = -2000000000 := by
  unfold k_all
  rw [if_neg (by omega), if_neg (by omega), if_pos (by omega)]
  unfold k_S q_fill q_rows
  rw [if_neg (by omega)]
  exact if_pos ⟨h.1, by omega, hj.1, hj.2⟩
theorem ka_86 {j : Int} (hj : 0 ≤ j ∧ j < 576) : k_all 86 j = -2000000000 := by
  have : k_all 86 j = k_M 86 j := rfl
  rw [this]
  unfold k_M q_fill
  rw [if_neg (by omega), if_neg (by omega)]
  exact if_pos ⟨rfl, hj.1, hj.2⟩
theorem ka_86r (j : Int) : q_r (k_all 86 j) := by
  by_cases c : 0 ≤ j ∧ j < 576
  · rw [ka_86 c]
    decide
  · have : k_all 86 j = k_M 86 j := rfl
    rw [this]
    unfold k_M q_fill
    rw [if_neg (by omega), if_neg (by omega), if_neg (by omega)]
    show q_r 0
    decide
theorem ka_21 (j : Int) : k_all 21 j = 0 := by
  have : k_all 21 j = k_W 21 j := rfl
  rw [this]
  unfold k_W q_rows q_fill
  rw [if_neg (by omega)]
  split <;> rfl
theorem ka_22 (j : Int) : k_all 22 j = 0 := by
  have : k_all 22 j = k_W 22 j := rfl
  rw [this]
  unfold k_W q_rows q_fill
  rw [if_neg (by omega), if_neg (by omega)]
  rfl
theorem ka_104 {j : Int} (h : j < 0 ∨ 26 ≤ j) : k_all 104 j = -1 := by
  have : k_all 104 j = k_M 104 j := rfl
  rw [this]
  unfold k_M q_fill
  rw [if_neg (by omega), if_neg (by omega), if_neg (by omega)]
  have : k_N 104 j = if 0 ≤ j ∧ j < 26 then 0 else -1 := rfl
  rw [this]
  exact if_neg (by omega)
theorem ka_87 (j : Int) : k_all 87 j = 0 := by
  have : k_all 87 j = k_M 87 j := rfl
  rw [this]
  unfold k_M q_fill
  rw [if_neg (by omega), if_neg (by omega), if_neg (by omega)]
  rfl
theorem ka_88 (j : Int) : k_all 88 j = 0 := by
  have : k_all 88 j = k_M 88 j := rfl
  rw [this]
  unfold k_M q_fill
  rw [if_neg (by omega)]
  split
  · rfl
  · rw [if_neg (by omega)]
    rfl
theorem ka_94 (j : Int) : k_all 94 j = 0 := by
  have : k_all 94 j = k_M 94 j := rfl
  rw [this]
  unfold k_M q_fill
  split
  · rfl
  · rw [if_neg (by omega), if_neg (by omega)]
    rfl
theorem ka_105 (j : Int) : k_all 105 j = 0 := by
  have : k_all 105 j = k_M 105 j := rfl
  rw [this]
  unfold k_M q_fill
  rw [if_neg (by omega), if_neg (by omega), if_neg (by omega)]
  rfl
theorem ka_12 (j : Int) : k_all 12 j = 0 := by
  have : k_all 12 j = k_S 12 j := rfl
  rw [this]
  unfold k_S q_fill q_rows
  split
  · rfl
  · rw [if_neg (by omega)]
    rfl
theorem ka_14 (j : Int) : k_all 14 j = 0 := rfl
theorem ka_p {i k : Int} (h : 0 ≤ i ∧ i < 10) : k_all (39 + 13 + i) k = 0 ∧ k_all (62 + 13 + i) k = 0 := by
  constructor
  · unfold k_all
    rw [if_neg (by omega), if_neg (by omega), if_neg (by omega), if_neg (by omega), if_neg (by omega), if_neg (by omega), if_pos (by omega)]
    unfold k_P q_fill q_up
    rw [if_neg (by omega), if_neg (by omega)]
    rfl
  · unfold k_all
    rw [if_neg (by omega), if_neg (by omega), if_neg (by omega), if_neg (by omega), if_neg (by omega), if_neg (by omega), if_neg (by omega), if_pos (by omega)]
    unfold k_P q_fill q_up
    rw [if_neg (by omega), if_neg (by omega)]
    rfl
theorem ka_cp {u v : Int} (u0 : -1 ≤ u) (u1 : u ≤ 12) (v0 : -1 ≤ v) (v1 : v ≤ 12) : 0 ≤ c_p u v ∧ c_p u v < 196 := by
  unfold c_p
  omega
theorem J_0 : J 0 k_all := by
  refine ⟨⟨show (0 : Int) ≤ 0 by decide, show (0 : Int) ≤ 90 * ((0 : Nat) : Int) by decide⟩, 39, 62, 8, 8, 0, ⟨?_, ?_, ?_, ?_⟩, ?_, ?_, ?_, ?_, ?_⟩
  · exact ⟨Or.inl rfl, rfl, by decide, rfl, rfl, rfl, ⟨rfl, rfl, rfl, rfl⟩, ⟨by decide, by decide⟩, fun b b0 b1 => absurd b1 (by omega)⟩
  · refine ⟨fun i i0 i1 => ⟨fun u v u0 u1 v0 v1 _ => ka_v ⟨by omega, by omega⟩ (ka_cp u0 u1 v0 v1), fun u v q => ?_⟩, fun s u v s0 s1 q => ?_⟩
    · show m_vr (k_all (24 + i) ((v + 1) * 14 + u + 1))
      rw [ka_v ⟨by omega, by omega⟩ ⟨by omega, by omega⟩]
      exact Or.inl rfl
    · show m_vr (k_all (4 + s) ((v + 1) * 14 + u + 1))
      rw [ka_s ⟨by omega, by omega⟩ ⟨by omega, by omega⟩]
      exact Or.inl rfl
  · refine ⟨fun b _ _ => ?_, fun b t b0 b1 q => ?_, fun b k t u b0 b1 => absurd b1 (by omega)⟩
    · rw [ka_21]
      exact q_mk_0
    · rw [ka_21, bt_0] at q
      cases q
  · exact fun b x y b0 b1 => absurd b1 (by omega)
  · refine ⟨⟨rfl, rfl, Or.inr rfl, by decide⟩, ⟨rfl, rfl, rfl, rfl⟩, ⟨rfl, show q_r (-1) by decide⟩, ⟨rfl, show q_r 0 by decide⟩, rfl, fun j _ _ => ?_, fun j q => ka_104 q⟩
    rw [ka_22]
    exact q_mk_0
  · refine ⟨fun s x y s0 s1 x0 x1 y0 y1 => ?_, fun s u v s0 s1 u0 u1 v0 v1 _ => ka_s ⟨by omega, by omega⟩ (ka_cp u0 u1 v0 v1), fun j => ⟨ka_86r j, ?_⟩, fun j => Or.inl (ka_88 j), fun k k0 k1 => ⟨?_, fun q => ?_⟩⟩
    · rw [ka_s ⟨by omega, by omega⟩ (ka_cp (by omega) (by omega) (by omega) (by omega)), ka_86 ⟨by omega, by omega⟩]
    · rw [ka_87]
      decide
    · rw [ka_12, ka_88]
    · rw [ka_88] at q
      exact absurd q (by decide)
  · exact ⟨rfl, ⟨⟨show (0 : Int) ≤ 0 by decide, show (0 : Int) ≤ 300 by decide⟩, fun j j0 j1 => absurd (show j < 0 from j1) (by omega)⟩, fun j => by rw [ka_14, ka_105]⟩
  · refine ⟨fun b b0 b1 => absurd b1 (by omega), fun i k i0 i1 k0 k1 => ?_⟩
    rw [(ka_p (k := k) ⟨i0, i1⟩).1, (ka_p (k := k) ⟨i0, i1⟩).2]
    decide
  · refine ⟨fun b t b0 b1 t0 t1 => ?_, fun j => Or.inl (ka_94 j)⟩
    rw [ka_94, ka_21, bt_0]
    rfl

