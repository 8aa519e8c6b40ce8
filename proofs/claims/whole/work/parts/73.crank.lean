/-! least ways: how many rounds they take -/
def w_key (w h : Int) (A B : Int → Int → Int) (x y c : Int) (n : Nat) : Prop := w_re w h A B x y c ∧ m_wk w h A B n x y c ∧ ∀ m : Nat, m < n → ¬ m_wk w h A B m x y c
theorem w_key_ex {w h : Int} {A B : Int → Int → Int} {x y c : Int} : ∀ (n : Nat), w_re w h A B x y c → m_wk w h A B n x y c → ∃ m : Nat, m ≤ n ∧ w_key w h A B x y c m := by
  intro n
  induction n using Nat.strongRecOn with
  | _ n ih =>
    intro h1 h2
    by_cases c9 : ∃ m : Nat, m < n ∧ m_wk w h A B m x y c
    · obtain ⟨m, m1, m2⟩ := c9
      obtain ⟨k, k1, k2⟩ := ih m m1 h1 m2
      exact ⟨k, by omega, k2⟩
    · exact ⟨n, Nat.le_refl _, h1, h2, fun m hm q => c9 ⟨m, hm, q⟩⟩
abbrev w_lt (c' : Int) (n' : Nat) (c : Int) (n : Nat) : Prop := c' < c ∨ (c' = c ∧ n' < n)
noncomputable def w_rk (w h : Int) (A B : Int → Int → Int) (c : Int) (n : Nat) : Int := m_sm (fun j => m_ind (∃ (c' : Int) (n' : Nat), w_key w h A B (j % 12) (j / 12) c' n' ∧ w_lt c' n' c n)) 144 0
theorem w_rk_b (w h : Int) (A B : Int → Int → Int) (c : Int) (n : Nat) : 0 ≤ w_rk w h A B c n ∧ w_rk w h A B c n ≤ 144 := m_sm_01 (fun _ => m_ind_01 _) 144 0
theorem w_key_u {w h : Int} {A B : Int → Int → Int} {x y c c' : Int} {n n' : Nat} (h1 : w_key w h A B x y c n) (h2 : w_key w h A B x y c' n') : c = c' ∧ n = n' := by
  obtain ⟨⟨⟨a1, a2⟩, a3, a4⟩, a5, a6⟩ := h1
  obtain ⟨⟨⟨b1, b2⟩, b3, b4⟩, b5, b6⟩ := h2
  have e : c = c' := by
    have := a3 b1 _ b2
    have := b3 a1 _ a2
    omega
  subst e
  refine ⟨rfl, ?_⟩
  rcases Nat.lt_trichotomy n n' with q | q | q
  · exact absurd a5 (b6 n q)
  · exact q
  · exact absurd b5 (a6 n' q)
theorem w_rk_lt {w h : Int} {A B : Int → Int → Int} (hd : m_dim w h) {u v c c' : Int} {n n' : Nat} (hk : w_key w h A B u v c' n') (hl : w_lt c' n' c n) : w_rk w h A B c' n' < w_rk w h A B c n := by
  have hin := (m_wk_0 n' u v c' hk.2.1).2
  have q1 : (12 * v + u) % 12 = u := by omega
  have q2 : (12 * v + u) / 12 = v := by omega
  refine m_sm_lt (i0 := 12 * v + u) ?_ 144 0 (fun i => ?_) (by omega) (by omega)
  · show m_ind (∃ (c2 : Int) (n2 : Nat), w_key w h A B ((12 * v + u) % 12) ((12 * v + u) / 12) c2 n2 ∧ w_lt c2 n2 c' n') < m_ind (∃ (c2 : Int) (n2 : Nat), w_key w h A B ((12 * v + u) % 12) ((12 * v + u) / 12) c2 n2 ∧ w_lt c2 n2 c n)
    rw [q1, q2]
    have z1 : m_ind (∃ (c2 : Int) (n2 : Nat), w_key w h A B u v c2 n2 ∧ w_lt c2 n2 c' n') = 0 := m_ind_f (by
      rintro ⟨c2, n2, k2, l2⟩
      obtain ⟨e1, e2⟩ := w_key_u k2 hk
      omega)
    have z2 : m_ind (∃ (c2 : Int) (n2 : Nat), w_key w h A B u v c2 n2 ∧ w_lt c2 n2 c n) = 1 := m_ind_t ⟨c', n', hk, hl⟩
    rw [z1, z2]
    decide
  · show m_ind _ ≤ m_ind _
    by_cases c9 : ∃ (c2 : Int) (n2 : Nat), w_key w h A B (i % 12) (i / 12) c2 n2 ∧ w_lt c2 n2 c' n'
    · obtain ⟨c2, n2, k2, l2⟩ := id c9
      rw [m_ind_t c9, m_ind_t ⟨c2, n2, k2, by omega⟩]
      exact Int.le_refl _
    · rw [m_ind_f c9]
      exact (m_ind_01 _).1
/-- the cell before, on a least way -/
theorem w_pre {w h : Int} {A B : Int → Int → Int} {x y c : Int} {n : Nat} (hk : w_key w h A B x y c (n + 1)) : ∃ (u v c' : Int) (n' : Nat), w_key w h A B u v c' n' ∧ m_adj u v x y ∧ ¬ B x y = -2000000000 ∧ c = c' + m_ct B x y ∧ w_lt c' n' c (n + 1) := by
  obtain ⟨⟨⟨a1, a2⟩, a3, a4⟩, a5, a6⟩ := hk
  obtain ⟨u, v, c', h1, h2, h3, h4, rfl⟩ := a5
  have hct : 0 ≤ m_ct B x y := by
    show 0 ≤ (if B x y < 0 then 0 else B x y)
    split <;> omega
  have hre : w_re w h A B u v c' := by
    refine ⟨⟨n, h1⟩, fun m c2 hm => ?_, by omega⟩
    have := a3 (m + 1) (c2 + m_ct B x y) ⟨u, v, c2, hm, h2, h3, h4, rfl⟩
    omega
  obtain ⟨n', k1, k2⟩ := w_key_ex n hre h1
  exact ⟨u, v, c', n', k2, h2, h4, rfl, by omega⟩
/-- cells of low rank have their least sums -/
def w_P (w h : Int) (A B : Int → Int → Int) (r : Int) (O : Int → Int → Int) : Prop := ∀ (x y c : Int) (n : Nat), w_key w h A B x y c n → w_rk w h A B c n < r → O x y = c
theorem w_P_al {w h : Int} {A B O : Int → Int → Int} {r : Int} (hr : 145 ≤ r) (h1 : w_P w h A B r O) : w_al w h A B O := by
  intro x y c hc
  obtain ⟨n, hn⟩ := hc.1
  obtain ⟨m, m1, m2⟩ := w_key_ex n hc hn
  have := w_rk_b w h A B c m
  exact h1 x y c m m2 (by omega)
/-- a cell after its turn in round r -/
theorem w_turn {w h : Int} {A B O O' : Int → Int → Int} {r x y c : Int} {n : Nat} (hd : m_dim w h) (hP : w_P w h A B r O) (hs' : w_so w h A B O') (h0 : ∀ x y : Int, m_in w h x y → m_src A B x y → O' x y = 0) (hk : w_key w h A B x y c n) (hr : w_rk w h A B c n < r + 1) (ht : ¬ B x y = -2000000000 → O' x y = 0 ∨ ∀ u v : Int, m_in w h u v → m_adj u v x y → ¬ O u v = -2000000000 → c_bef (O' x y) ≤ O u v + m_ct B x y) : O' x y = c := by
  obtain ⟨hre, hw, hl⟩ := id hk
  have hxy := (m_wk_0 n x y c hw).2
  have h4 := hre.2.2
  cases n with
  | zero =>
    obtain ⟨z1, z2, z3⟩ := hw
    rw [h0 x y z1 z2, z3]
  | succ n =>
    obtain ⟨u, v, c', n', p1, p2, p3, p4, p5⟩ := w_pre hk
    have p6 := w_rk_lt hd p1 p5
    have p7 := hP u v c' n' p1 (by omega)
    obtain ⟨p8, p9⟩ := m_wk_0 n' u v c' p1.2.1
    have hle : ∀ z : Int, O' x y = z → ¬ z = -2000000000 → c ≤ z := fun z e q => by
      rcases hs' x y hxy with s | ⟨s1, s2, m, s3⟩
      · omega
      · rw [← e]
        exact hre.2.1 m _ s3
    rcases ht p3 with q | q
    · have q9 := hle 0 q (by decide)
      have := (m_wk_0 _ x y c hw).1
      omega
    · have q1 := q u v p9 p2 (by rw [p7]; omega)
      rw [p7, ← p4] at q1
      by_cases cg : O' x y = -2000000000
      · have e : c_bef (O' x y) = 1000000001 := if_pos cg
        omega
      · have e : c_bef (O' x y) = O' x y := if_neg cg
        have := hle _ rfl cg
        omega

