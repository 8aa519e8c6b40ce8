/-! class and reference, call by call: tape, images, size -/
theorem J_end {c : Nat} {μ : QM} {k : Int} (hk : q_r k) (hJ : J c μ) : sp_X10_end ([.inl k] ++ [.inr (.inr 0)]) μ (j_E c sp_X11_end [.inl k]) := by
  show sp_X10_end [.inl k, .inr (.inr 0)] μ _
  rw [sp_X10_end_e]
  obtain ⟨h1, P, Q, w, h, n, hj⟩ := id hJ
  obtain ⟨k1, k2, k3, k4, k5, k6⟩ := id hj
  have hP := k1.1.1
  have hQ := k2.1.2.2.1
  have hn := k1.1.2.2.2.2.2.2.2.1
  have bt := k4.2.1.1
  refine ⟨rfl, ⟨hk, by rw [k4.1]; omega⟩, ?_⟩
  rw [k4.1]
  by_cases q : 0 ≤ k ∧ k ≤ μ 85 31
  · rw [if_pos q]
    refine ⟨k, rfl, hk, ?_⟩
    show sp_X11_end [.inl k, .inr (.inr 85)] _ _
    have e : ∀ a j : Int, ¬ (a = 13 ∧ j = 1) → q_up μ 13 1 k a j = μ a j := fun a j q => by rw [u_app, if_neg q]
    rw [sp_X11_end_e, e 85 31 (by omega), if_neg (by omega)]
    refine ⟨rfl, ⟨hk, by omega⟩, rfl, ?_⟩
    have e2 : ∀ a j : Int, ¬ (a = 13 ∧ j = 1) → ¬ (a = 85 ∧ (j = 0 ∨ j = 31)) → q_up (q_up (q_up μ 13 1 k) 85 0 0) 85 31 k a j = μ a j := fun a j n1 n2 => by rw [u_app, if_neg (by omega), u_app, if_neg (by omega), e a j n1]
    have e31 : q_up (q_up (q_up μ 13 1 k) 85 0 0) 85 31 k 85 31 = k := by rw [u_app, if_pos ⟨rfl, rfl⟩]
    have e13 : q_up (q_up (q_up μ 13 1 k) 85 0 0) 85 31 k 13 1 = k := by rw [u_app, if_neg (by omega), u_app, if_neg (by omega), u_app, if_pos ⟨rfl, rfl⟩]
    generalize q_up (q_up (q_up μ 13 1 k) 85 0 0) 85 31 k = ν at e2 e31 e13
    refine ⟨by rw [e2 85 14 (by omega) (by omega)]; omega, P, Q, w, h, n, c_ok_cg (fun a j q => e2 a j (by omega) (by omega)) k1, j_a_cg (fun a j q => e2 a j (by omega) (by omega)) k2, j_s_jk (fun a j q => e2 a j (by omega) (by omega)) k3, ⟨e13.trans e31.symm, ?_, fun j => ?_⟩, j_p_jk hP hQ hn.2 (fun a j q => e2 a j (by omega) (by omega)) k5, j_f_cg (fun a j q => e2 a j (by omega) (by omega)) k6⟩
    · rw [e31, show ν 105 = μ 105 from funext fun j => e2 105 j (by omega) (by omega)]
      exact ⟨by omega, fun j j0 j1 => k4.2.1.2 j j0 (by omega)⟩
    · rw [e2 14 j (by omega) (by omega), e2 105 j (by omega) (by omega)]
      exact k4.2.2 j
  · rw [if_neg q]
    refine ⟨-1, rfl, by decide, ?_⟩
    show sp_X11_end [.inl k, .inr (.inr 85)] _ _
    rw [sp_X11_end_e, if_pos (by omega)]
    exact ⟨rfl, ⟨hk, by omega⟩, rfl, J_of hJ (fun a j q => j_up0 q)⟩
/-- four bytes more on both tapes -/
theorem j_four {μ ν : QM} (v : Int) (h1 : μ 13 1 = ν 85 31) (h2 : ∀ j : Int, μ 14 j = ν 105 j) : (c_four μ v) 13 1 = (m_four ν v) 85 31 ∧ ∀ j : Int, (c_four μ v) 14 j = (m_four ν v) 105 j := by
  refine ⟨by rw [c_four_t, m_four_t, h1], fun j => ?_⟩
  unfold c_four m_four
  simp only [u_app, Int.reduceEq, false_and, true_and, if_false, h1, h2]
theorem c_four_fr {μ : QM} {v a j : Int} (h1 : ¬ a = 14) (h2 : ¬ (a = 13 ∧ j = 1)) : c_four μ v a j = μ a j := by
  unfold c_four
  rw [u_app, if_neg h2, u_app, if_neg (fun q => h1 q.1), u_app, if_neg (fun q => h1 q.1), u_app, if_neg (fun q => h1 q.1), u_app, if_neg (fun q => h1 q.1)]
theorem m_four_fr {μ : QM} {v a j : Int} (h1 : ¬ a = 105) (h2 : ¬ (a = 85 ∧ j = 31)) : m_four μ v a j = μ a j := by
  unfold m_four
  rw [u_app, if_neg h2, u_app, if_neg (fun q => h1 q.1), u_app, if_neg (fun q => h1 q.1), u_app, if_neg (fun q => h1 q.1), u_app, if_neg (fun q => h1 q.1)]
theorem m_four_tp {μ : QM} {v : Int} (h : m_tp (μ 105) (μ 85 31)) (hl : μ 85 31 ≤ 296) : m_tp (m_four μ v 105) (m_four μ v 85 31) := by
  rw [m_four_t]
  refine ⟨by have := h.1; omega, fun j j0 j1 => ?_⟩
  have b := fun k => q_and255 (q_shr v k)
  unfold m_four
  simp only [u_app, Int.reduceEq, false_and, true_and, if_false]
  have hb : ∀ k, 0 ≤ m_byte v k ∧ m_byte v k ≤ 255 := b
  by_cases c3 : j = μ 85 31 + 3
  · rw [if_pos c3]; exact hb 0
  · rw [if_neg c3]
    by_cases c2 : j = μ 85 31 + 2
    · rw [if_pos c2]; exact hb 8
    · rw [if_neg c2]
      by_cases c1 : j = μ 85 31 + 1
      · rw [if_pos c1]; exact hb 16
      · rw [if_neg c1]
        by_cases c0 : j = μ 85 31
        · rw [if_pos c0]; exact hb 24
        · rw [if_neg c0]
          exact h.2 j j0 (by omega)
theorem J_feed {c : Nat} {μ : QM} {v1 v2 v3 v4 v5 : Int} (hJ : J c μ) : sp_X10_feed ([.inl v5, .inl v4, .inl v3, .inl v2, .inl v1] ++ [.inr (.inr 0)]) μ (j_E c sp_X11_feed [.inl v5, .inl v4, .inl v3, .inl v2, .inl v1]) := by
  show sp_X10_feed [.inl v5, .inl v4, .inl v3, .inl v2, .inl v1, .inr (.inr 0)] μ _
  rw [sp_X10_feed_e]
  obtain ⟨h1, P, Q, w, h, n, hj⟩ := id hJ
  obtain ⟨k1, k2, k3, k4, k5, k6⟩ := id hj
  have hP := k1.1.1
  have hQ := k2.1.2.2.1
  have hn := k1.1.2.2.2.2.2.2.2.1
  have bt := k4.2.1.1
  rw [k4.1]
  refine ⟨rfl, bt, ?_⟩
  by_cases q : μ 85 31 + 20 ≤ 300
  · rw [if_pos q]
    refine ⟨_, rfl, by omega, ?_⟩
    show sp_X11_feed [.inl v5, .inl v4, .inl v3, .inl v2, .inl v1, .inr (.inr 85)] _ _
    have e : ∀ a j : Int, ¬ a = 14 → ¬ (a = 13 ∧ j = 1) → c_four (c_four (c_four (c_four (c_four μ v1) v2) v3) v4) v5 a j = μ a j := fun a j n1 n2 => by rw [c_four_fr n1 n2, c_four_fr n1 n2, c_four_fr n1 n2, c_four_fr n1 n2, c_four_fr n1 n2]
    rw [sp_X11_feed_e, e 85 31 (by omega) (by omega), if_neg (by omega)]
    refine ⟨rfl, bt, rfl, ?_⟩
    have s0 : μ 13 1 = q_up (c_four (c_four (c_four (c_four (c_four μ v1) v2) v3) v4) v5) 85 0 0 85 31 ∧ ∀ j : Int, μ 14 j = q_up (c_four (c_four (c_four (c_four (c_four μ v1) v2) v3) v4) v5) 85 0 0 105 j := by
      refine ⟨by rw [u_app, if_neg (by omega), e 85 31 (by omega) (by omega)]; exact k4.1, fun j => ?_⟩
      rw [u_app, if_neg (by omega), e 105 j (by omega) (by omega)]
      exact k4.2.2 j
    have s1 := j_four v1 s0.1 s0.2
    have s2 := j_four v2 s1.1 s1.2
    have s3 := j_four v3 s2.1 s2.2
    have s4 := j_four v4 s3.1 s3.2
    have s5 := j_four v5 s4.1 s4.2
    have p0 : m_tp (q_up (c_four (c_four (c_four (c_four (c_four μ v1) v2) v3) v4) v5) 85 0 0 105) (q_up (c_four (c_four (c_four (c_four (c_four μ v1) v2) v3) v4) v5) 85 0 0 85 31) := by
      rw [← s0.1, k4.1, show q_up (c_four (c_four (c_four (c_four (c_four μ v1) v2) v3) v4) v5) 85 0 0 105 = μ 105 from funext fun j => by rw [← s0.2 j]; exact k4.2.2 j]
      exact k4.2.1
    have l0 : q_up (c_four (c_four (c_four (c_four (c_four μ v1) v2) v3) v4) v5) 85 0 0 85 31 = μ 85 31 := by rw [← s0.1]; exact k4.1
    have p1 := m_four_tp (v := v1) p0 (by omega)
    have p2 := m_four_tp (v := v2) p1 (by rw [m_four_t]; omega)
    have p3 := m_four_tp (v := v3) p2 (by rw [m_four_t, m_four_t]; omega)
    have p4 := m_four_tp (v := v4) p3 (by rw [m_four_t, m_four_t, m_four_t]; omega)
    have p5 := m_four_tp (v := v5) p4 (by rw [m_four_t, m_four_t, m_four_t, m_four_t]; omega)
    have e2 : ∀ a j : Int, ¬ a = 14 → ¬ (a = 13 ∧ j = 1) → ¬ a = 105 → ¬ (a = 85 ∧ (j = 0 ∨ j = 31)) → m_four (m_four (m_four (m_four (m_four (q_up (c_four (c_four (c_four (c_four (c_four μ v1) v2) v3) v4) v5) 85 0 0) v1) v2) v3) v4) v5 a j = μ a j := fun a j n1 n2 n3 n4 => by
      have n5 : ¬ (a = 85 ∧ j = 31) := by omega
      rw [m_four_fr n3 n5, m_four_fr n3 n5, m_four_fr n3 n5, m_four_fr n3 n5, m_four_fr n3 n5, u_app, if_neg (by omega), e a j n1 n2]
    have e3 : ∀ a j : Int, ¬ a = 105 → ¬ (a = 85 ∧ (j = 0 ∨ j = 31)) → m_four (m_four (m_four (m_four (m_four (q_up (c_four (c_four (c_four (c_four (c_four μ v1) v2) v3) v4) v5) 85 0 0) v1) v2) v3) v4) v5 a j = c_four (c_four (c_four (c_four (c_four μ v1) v2) v3) v4) v5 a j := fun a j n3 n4 => by
      have n5 : ¬ (a = 85 ∧ j = 31) := by omega
      rw [m_four_fr n3 n5, m_four_fr n3 n5, m_four_fr n3 n5, m_four_fr n3 n5, m_four_fr n3 n5, u_app, if_neg (by omega)]
    have g1 := (e3 13 1 (by omega) (by omega)).trans s5.1
    have g2 := fun j => (e3 14 j (by omega) (by omega)).trans (s5.2 j)
    generalize m_four (m_four (m_four (m_four (m_four (q_up (c_four (c_four (c_four (c_four (c_four μ v1) v2) v3) v4) v5) 85 0 0) v1) v2) v3) v4) v5 = ν at e2 g1 g2 p5
    exact ⟨by rw [e2 85 14 (by omega) (by omega) (by omega) (by omega)]; omega, P, Q, w, h, n, c_ok_cg (fun a j q => e2 a j (by omega) (by omega) (by omega) (by omega)) k1, j_a_cg (fun a j q => e2 a j (by omega) (by omega) (by omega) (by omega)) k2, j_s_jk (fun a j q => e2 a j (by omega) (by omega) (by omega) (by omega)) k3, ⟨g1, p5, g2⟩, j_p_jk hP hQ hn.2 (fun a j q => e2 a j (by omega) (by omega) (by omega) (by omega)) k5, j_f_cg (fun a j q => e2 a j (by omega) (by omega) (by omega) (by omega)) k6⟩
  · rw [if_neg q]
    refine ⟨-1, rfl, by decide, ?_⟩
    show sp_X11_feed [.inl v5, .inl v4, .inl v3, .inl v2, .inl v1, .inr (.inr 85)] _ _
    rw [sp_X11_feed_e, if_pos (by omega)]
    exact ⟨rfl, bt, rfl, J_of hJ (fun a j q => j_up0 q)⟩

