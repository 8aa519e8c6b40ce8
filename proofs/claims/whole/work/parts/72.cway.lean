/-! least ways: what the class's row comes to -/
/-- a cell that a way within bounds leads to, with its least sum -/
def w_re (w h : Int) (A B : Int → Int → Int) (x y c : Int) : Prop := (∃ n, m_wk w h A B n x y c) ∧ (∀ n c', m_wk w h A B n x y c' → c ≤ c') ∧ c ≤ 1000000000
/-- the row holds sums of ways only -/
def w_so (w h : Int) (A B : Int → Int → Int) (O : Int → Int → Int) : Prop := ∀ x y : Int, m_in w h x y → O x y = -2000000000 ∨ (0 ≤ O x y ∧ O x y ≤ 1000000000 ∧ ∃ n, m_wk w h A B n x y (O x y))
/-- all least sums are there -/
def w_al (w h : Int) (A B : Int → Int → Int) (O : Int → Int → Int) : Prop := ∀ x y c : Int, w_re w h A B x y c → O x y = c
theorem w_min {w h : Int} {A B : Int → Int → Int} {x y : Int} (hex : ∃ n c, m_wk w h A B n x y c) : ∃ c, (∃ n, m_wk w h A B n x y c) ∧ ∀ n c', m_wk w h A B n x y c' → c ≤ c' := by
  obtain ⟨n0, c0, h0⟩ := hex
  have : ∀ (m : Nat), (∃ n c, m_wk w h A B n x y c ∧ c ≤ m) → ∃ c, (∃ n, m_wk w h A B n x y c) ∧ ∀ n c', m_wk w h A B n x y c' → c ≤ c' := by
    intro m
    induction m with
    | zero =>
      rintro ⟨n, c, h1, h2⟩
      have := (m_wk_0 n x y c h1).1
      refine ⟨c, ⟨n, h1⟩, fun n' c' h' => ?_⟩
      have := (m_wk_0 n' x y c' h').1
      omega
    | succ m ih =>
      rintro ⟨n, c, h1, h2⟩
      by_cases c9 : ∃ n c, m_wk w h A B n x y c ∧ c ≤ m
      · exact ih c9
      · refine ⟨c, ⟨n, h1⟩, fun n' c' h' => ?_⟩
        have : ¬ c' ≤ m := fun q => c9 ⟨n', c', h', q⟩
        omega
  exact this c0.toNat ⟨n0, c0, h0, by omega⟩
theorem w_way {w h : Int} {A B O : Int → Int → Int} (hs : w_so w h A B O) (ha : w_al w h A B O) {x y : Int} (hxy : m_in w h x y) : O x y = m_way w h A B x y := by
  unfold m_way
  by_cases c : ∃ n c, m_wk w h A B n x y c
  · obtain ⟨v, h1, h2⟩ := w_min c
    have hf : m_far w h A B x y = v := by
      unfold m_far
      have hex : ∃ c : Int, (∃ n, m_wk w h A B n x y c) ∧ ∀ n c', m_wk w h A B n x y c' → c ≤ c' := ⟨v, h1, h2⟩
      rw [dif_pos hex]
      have := hex.choose_spec
      obtain ⟨⟨n, hn⟩, hl⟩ := this
      obtain ⟨m, hm⟩ := h1
      have q1 := hl m _ hm
      have q2 := h2 n _ hn
      omega
    obtain ⟨m, hm⟩ := id h1
    have h0 := (m_wk_0 m x y v hm).1
    rw [hf, if_neg (by omega)]
    by_cases c1 : v ≤ 1000000000
    · rw [ha x y v ⟨h1, h2, c1⟩]
      exact (if_pos (by omega)).symm
    · have e : q_kept v = -2000000000 := if_neg (by omega)
      rw [e]
      rcases hs x y hxy with q | ⟨q1, q2, n, q3⟩
      · exact q
      · have := h2 n _ q3
        omega
  · have hf : m_far w h A B x y = -1 := by
      unfold m_far
      rw [dif_neg]
      rintro ⟨v, ⟨n, hn⟩, -⟩
      exact c ⟨n, v, hn⟩
    rw [hf, if_pos (by omega)]
    rcases hs x y hxy with q | ⟨q1, q2, n, q3⟩
    · exact q
    · exact absurd ⟨n, _, q3⟩ c
/-- no side shortens -/
def w_fx (w h : Int) (B : Int → Int → Int) (O : Int → Int → Int) (x y : Int) : Prop := ¬ B x y = -2000000000 → ¬ O x y = 0 → ∀ u v : Int, m_in w h u v → m_adj u v x y → ¬ O u v = -2000000000 → c_bef (O x y) ≤ O u v + m_ct B x y
theorem w_fix {w h : Int} {A B O : Int → Int → Int} (hs : w_so w h A B O) (h0 : ∀ x y : Int, m_in w h x y → m_src A B x y → O x y = 0) (hf : ∀ x y : Int, m_in w h x y → w_fx w h B O x y) : w_al w h A B O := by
  have hl : ∀ (n : Nat) (x y c : Int), m_wk w h A B n x y c → c ≤ 1000000000 → ¬ O x y = -2000000000 ∧ O x y ≤ c := by
    intro n
    induction n with
    | zero =>
      intro x y c hw hc
      obtain ⟨h1, h2, rfl⟩ := hw
      rw [h0 x y h1 h2]
      omega
    | succ n ih =>
      intro x y c hw hc
      obtain ⟨u, v, c', h1, h2, h3, h4, rfl⟩ := hw
      have hct : 0 ≤ m_ct B x y := by
        show 0 ≤ (if B x y < 0 then 0 else B x y)
        split <;> omega
      have h5 := (m_wk_0 n u v c' h1)
      obtain ⟨k1, k2⟩ := ih u v c' h1 (by omega)
      by_cases c0 : O x y = 0
      · rw [c0]
        omega
      · have := hf x y h3 h4 c0 u v h5.2 h2 k1
        by_cases cg : O x y = -2000000000
        · have e : c_bef (O x y) = 1000000001 := if_pos cg
          omega
        · have e : c_bef (O x y) = O x y := if_neg cg
          exact ⟨cg, by omega⟩
  rintro x y c ⟨⟨n, hn⟩, h2, h3⟩
  obtain ⟨k1, k2⟩ := hl n x y c hn h3
  rcases hs x y (m_wk_0 n x y c hn).2 with q | ⟨q1, q2, m, q3⟩
  · exact absurd q k1
  · have := h2 m _ q3
    omega

