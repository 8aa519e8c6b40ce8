/-! least ways -/
abbrev m_src (A B : Int → Int → Int) (x y : Int) : Prop := ¬ B x y = -2000000000 ∧ ¬ A x y = -2000000000 ∧ 0 < A x y
abbrev m_ct (B : Int → Int → Int) (x y : Int) : Int := if B x y < 0 then 0 else B x y
/-- from side to side -/
abbrev m_adj (u v x y : Int) : Prop := (x = u + 1 ∧ y = v) ∨ (x = u ∧ y = v + 1) ∨ (x = u - 1 ∧ y = v) ∨ (x = u ∧ y = v - 1)
def m_wk (w h : Int) (A B : Int → Int → Int) : Nat → Int → Int → Int → Prop
  | 0, x, y, c => m_in w h x y ∧ m_src A B x y ∧ c = 0
  | n + 1, x, y, c => ∃ u v c' : Int, m_wk w h A B n u v c' ∧ m_adj u v x y ∧ m_in w h x y ∧ ¬ B x y = -2000000000 ∧ c = c' + m_ct B x y
theorem m_wk_0 {w h : Int} {A B : Int → Int → Int} : ∀ (n : Nat) (x y c : Int), m_wk w h A B n x y c → 0 ≤ c ∧ m_in w h x y
  | 0, x, y, c, h => by
    obtain ⟨h1, -, rfl⟩ := h
    exact ⟨Int.le_refl _, h1⟩
  | n + 1, x, y, c, h => by
    obtain ⟨u, v, c', h1, -, h2, -, rfl⟩ := h
    have := m_wk_0 n u v c' h1
    refine ⟨?_, h2⟩
    show 0 ≤ c' + (if B x y < 0 then 0 else B x y)
    split <;> omega
/-- f holds the least sums; -1 where no way leads -/
def m_isw (w h : Int) (A B f : Int → Int → Int) : Prop := ∀ x y : Int, m_in w h x y → (f x y = -1 ∧ ∀ n c, ¬ m_wk w h A B n x y c) ∨ (0 ≤ f x y ∧ (∃ n, m_wk w h A B n x y (f x y)) ∧ ∀ n c, m_wk w h A B n x y c → f x y ≤ c)
theorem m_isw_u {w h : Int} {A B f g : Int → Int → Int} (hf : m_isw w h A B f) (hg : m_isw w h A B g) {x y : Int} (hxy : m_in w h x y) : f x y = g x y := by
  rcases hf x y hxy with ⟨a1, a2⟩ | ⟨a1, ⟨n, a2⟩, a3⟩ <;> rcases hg x y hxy with ⟨b1, b2⟩ | ⟨b1, ⟨m, b2⟩, b3⟩
  · rw [a1, b1]
  · exact absurd b2 (a2 m _)
  · exact absurd a2 (b2 n _)
  · have := a3 m _ b2
    have := b3 n _ a2
    omega
noncomputable def m_far (w h : Int) (A B : Int → Int → Int) (x y : Int) : Int := @dite Int (∃ c : Int, (∃ n, m_wk w h A B n x y c) ∧ ∀ n c', m_wk w h A B n x y c' → c ≤ c') (Classical.propDecidable _) (fun h => h.choose) (fun _ => -1)
theorem m_isw_far {w h : Int} {A B f : Int → Int → Int} (hf : m_isw w h A B f) {x y : Int} (hxy : m_in w h x y) : f x y = m_far w h A B x y := by
  unfold m_far
  rcases hf x y hxy with ⟨a1, a2⟩ | ⟨a1, a2, a3⟩
  · rw [dif_neg]
    · exact a1
    · rintro ⟨c, ⟨n, hn⟩, -⟩
      exact a2 n c hn
  · have hex : ∃ c : Int, (∃ n, m_wk w h A B n x y c) ∧ ∀ n c', m_wk w h A B n x y c' → c ≤ c' := ⟨f x y, a2, a3⟩
    rw [dif_pos hex]
    have := hex.choose_spec
    obtain ⟨⟨n, hn⟩, hl⟩ := this
    obtain ⟨m, hm⟩ := a2
    have q1 := hl m _ hm
    have q2 := a3 n _ hn
    omega
/-- the value of a way -/
noncomputable def m_way (w h : Int) (A B : Int → Int → Int) (x y : Int) : Int := if m_far w h A B x y < 0 then -2000000000 else q_kept (m_far w h A B x y)
theorem m_sm_up {g g' : Int → Int} {i0 : Int} (hg : ∀ i, ¬ i = i0 → g' i = g i) : ∀ (d : Nat) (u : Int), m_sm g' d u = m_sm g d u + (if u ≤ i0 ∧ i0 < u + d then g' i0 - g i0 else 0)
  | 0, u => by
    show (0 : Int) = 0 + _
    rw [if_neg (by omega)]
    rfl
  | d + 1, u => by
    show g' u + m_sm g' d (u + 1) = g u + m_sm g d (u + 1) + _
    rw [m_sm_up hg d (u + 1)]
    by_cases c : u = i0
    · subst c
      rw [if_neg (by omega), if_pos (by omega)]
      omega
    · rw [hg u c]
      by_cases c2 : u + 1 ≤ i0 ∧ i0 < u + 1 + d
      · rw [if_pos c2, if_pos (by omega)]
        omega
      · rw [if_neg c2, if_neg (by omega)]
        omega
def m_s2 (w h : Int) (g : Int → Int) : Int := m_sm (fun v => m_sm (fun u => g (12 * v + u)) w.toNat 0) h.toNat 0
theorem m_s2_up {w h : Int} {g g' : Int → Int} {x y : Int} (hd : m_dim w h) (hxy : m_in w h x y) (hg : ∀ j, ¬ j = 12 * y + x → g' j = g j) : m_s2 w h g' = m_s2 w h g + (g' (12 * y + x) - g (12 * y + x)) := by
  unfold m_s2
  have e : ∀ v : Int, ¬ v = y → m_sm (fun u => g' (12 * v + u)) w.toNat 0 = m_sm (fun u => g (12 * v + u)) w.toNat 0 := fun v hv => m_sm_cg _ _ (fun i a b => hg _ (by omega))
  have e0 : m_sm (fun u => g' (12 * y + u)) w.toNat 0 = m_sm (fun u => g (12 * y + u)) w.toNat 0 + (g' (12 * y + x) - g (12 * y + x)) := by
    have := m_sm_up (g := fun u => g (12 * y + u)) (g' := fun u => g' (12 * y + u)) (i0 := x) (fun i hi => hg _ (by omega)) w.toNat 0
    rw [if_pos (by omega)] at this
    exact this
  have := m_sm_up (g := fun v => m_sm (fun u => g (12 * v + u)) w.toNat 0) (g' := fun v => m_sm (fun u => g' (12 * v + u)) w.toNat 0) (i0 := y) e h.toNat 0
  rw [if_pos (by omega)] at this
  rw [this]
  show _ + (m_sm (fun u => g' (12 * y + u)) w.toNat 0 - m_sm (fun u => g (12 * y + u)) w.toNat 0) = _
  rw [e0]
  omega
theorem m_sm_le {g : Int → Int} {M : Int} (hM : 0 ≤ M) : ∀ (d : Nat) (u : Int), (∀ i : Int, u ≤ i → i < u + d → 0 ≤ g i ∧ g i ≤ M) → 0 ≤ m_sm g d u ∧ m_sm g d u ≤ d * M
  | 0, u, _ => by
    show 0 ≤ (0 : Int) ∧ (0 : Int) ≤ ((0 : Nat) : Int) * M
    simp
  | d + 1, u, hg => by
    have h1 := m_sm_le hM d (u + 1) (fun i a b => hg i (by omega) (by omega))
    have h2 := hg u (by omega) (by omega)
    show 0 ≤ g u + m_sm g d (u + 1) ∧ g u + m_sm g d (u + 1) ≤ ((d + 1 : Nat) : Int) * M
    have e : ((d + 1 : Nat) : Int) * M = (d : Int) * M + M := by
      rw [show ((d + 1 : Nat) : Int) = (d : Int) + 1 by omega, Int.add_mul, Int.one_mul]
    rw [e]
    omega
/-- how many cells have no number yet, and the sum of the others' -/
def m_uf (f : Int → Int) : Int → Int := fun j => if f j < 0 then 1 else 0
def m_sf (f : Int → Int) : Int → Int := fun j => if f j < 0 then 0 else f j
theorem m_uf_c {f g : Int → Int} {j : Int} (h : f j = g j) : m_uf f j = m_uf g j := by
  unfold m_uf
  rw [h]
theorem m_sf_c {f g : Int → Int} {j : Int} (h : f j = g j) : m_sf f j = m_sf g j := by
  unfold m_sf
  rw [h]
theorem m_uf_b {w h : Int} (hd : m_dim w h) (f : Int → Int) : 0 ≤ m_s2 w h (m_uf f) ∧ m_s2 w h (m_uf f) ≤ 144 := by
  unfold m_s2
  have h1 : ∀ v : Int, 0 ≤ m_sm (fun u => m_uf f (12 * v + u)) w.toNat 0 ∧ m_sm (fun u => m_uf f (12 * v + u)) w.toNat 0 ≤ 12 := by
    intro v
    have := m_sm_le (g := fun u => m_uf f (12 * v + u)) (M := 1) (by omega) w.toNat 0 (fun i _ _ => by
      show 0 ≤ m_uf f _ ∧ m_uf f _ ≤ 1
      unfold m_uf
      split <;> omega)
    omega
  have := m_sm_le (g := fun v => m_sm (fun u => m_uf f (12 * v + u)) w.toNat 0) (M := 12) (by omega) h.toNat 0 (fun i _ _ => h1 i)
  omega
theorem m_sm_nn {g : Int → Int} : ∀ (d : Nat) (u : Int), (∀ i : Int, 0 ≤ g i) → 0 ≤ m_sm g d u
  | 0, u, _ => Int.le_refl _
  | d + 1, u, hg => by
    have h1 := m_sm_nn d (u + 1) hg
    have h2 := hg u
    show 0 ≤ g u + m_sm g d (u + 1)
    omega
theorem m_sf_b {w h : Int} (f : Int → Int) : 0 ≤ m_s2 w h (m_sf f) := by
  unfold m_s2
  refine m_sm_nn _ _ (fun v => m_sm_nn _ _ (fun u => ?_))
  show 0 ≤ m_sf f _
  unfold m_sf
  split <;> omega
/-- what holds of the numbers while they are worked on -/
def m_winv (w h : Int) (A B : Int → Int → Int) (f : Int → Int) : Prop := ∀ x y : Int, m_in w h x y → (f (12 * y + x) = -1 ∨ (0 ≤ f (12 * y + x) ∧ ∃ n, m_wk w h A B n x y (f (12 * y + x)))) ∧ (m_src A B x y → f (12 * y + x) = 0) ∧ f (12 * y + x) ≤ 1000000000 * (144 - m_s2 w h (m_uf f))
def m_lx (w h : Int) (f' f : Int → Int) : Prop := m_s2 w h (m_uf f') < m_s2 w h (m_uf f) ∨ (m_s2 w h (m_uf f') = m_s2 w h (m_uf f) ∧ m_s2 w h (m_sf f') < m_s2 w h (m_sf f))
theorem m_lx_t {w h : Int} {a b c : Int → Int} (h1 : m_lx w h a b) (h2 : m_lx w h b c) : m_lx w h a c := by
  unfold m_lx at h1 h2 ⊢
  omega
/-- an edge is relaxed -/
theorem m_relax {w h : Int} {A B : Int → Int → Int} {f : Int → Int} (hd : m_dim w h) (hI : m_winv w h A B f) (hB : ∀ u v : Int, m_in w h u v → m_vr (B u v)) {x y u v : Int} (hxy : m_in w h x y) (huv : m_in w h u v) (hadj : m_adj x y u v) (hf : 0 ≤ f (12 * y + x)) (hb : ¬ B u v = -2000000000) (hc : f (12 * v + u) < 0 ∨ f (12 * y + x) + m_ct B u v < f (12 * v + u)) :
    m_winv w h A B (fun j => if j = 12 * v + u then f (12 * y + x) + m_ct B u v else f j) ∧ m_lx w h (fun j => if j = 12 * v + u then f (12 * y + x) + m_ct B u v else f j) f := by
  have hcb : 0 ≤ m_ct B u v ∧ m_ct B u v ≤ 1000000000 := by
    have := hB u v huv
    show 0 ≤ (if B u v < 0 then 0 else B u v) ∧ (if B u v < 0 then 0 else B u v) ≤ 1000000000
    split <;> omega
  generalize hval : f (12 * y + x) + m_ct B u v = val at hc ⊢
  have hv0 : 0 ≤ val := by omega
  have hU := m_s2_up (g := m_uf f) (g' := m_uf (fun j => if j = 12 * v + u then val else f j)) hd huv (fun j hj => m_uf_c (if_neg hj))
  have hS := m_s2_up (g := m_sf f) (g' := m_sf (fun j => if j = 12 * v + u then val else f j)) hd huv (fun j hj => m_sf_c (if_neg hj))
  have eU : m_uf (fun j => if j = 12 * v + u then val else f j) (12 * v + u) = 0 := (m_uf_c (g := fun _ => val) (if_pos rfl)).trans (if_neg (show ¬ val < 0 by omega))
  have eS : m_sf (fun j => if j = 12 * v + u then val else f j) (12 * v + u) = val := (m_sf_c (g := fun _ => val) (if_pos rfl)).trans (if_neg (show ¬ val < 0 by omega))
  rw [eU] at hU
  rw [eS] at hS
  have hx := hI x y hxy
  have hu := hI u v huv
  have hUb := m_uf_b hd f
  by_cases c0 : f (12 * v + u) < 0
  · have e1 : m_uf f (12 * v + u) = 1 := by unfold m_uf; rw [if_pos c0]
    rw [e1] at hU
    refine ⟨fun p q hpq => ?_, Or.inl (by omega)⟩
    rw [hU]
    have hp := hI p q hpq
    by_cases c : 12 * q + p = 12 * v + u
    · have ep : p = u := by omega
      have eq : q = v := by omega
      subst ep; subst eq
      dsimp only
      rw [if_pos c]
      obtain ⟨n, hn⟩ : ∃ n, m_wk w h A B n x y (f (12 * y + x)) := by
        rcases hx.1 with q1 | ⟨_, q2⟩
        · omega
        · exact q2
      refine ⟨Or.inr ⟨hv0, n + 1, x, y, f (12 * y + x), hn, hadj, huv, hb, hval.symm⟩, fun hs => ?_, by omega⟩
      have := hp.2.1 hs
      omega
    · dsimp only
      rw [if_neg c]
      refine ⟨hp.1, hp.2.1, by omega⟩
  · have e1 : m_uf f (12 * v + u) = 0 := by unfold m_uf; rw [if_neg c0]
    have e2 : m_sf f (12 * v + u) = f (12 * v + u) := by unfold m_sf; rw [if_neg c0]
    rw [e1] at hU
    rw [e2] at hS
    refine ⟨fun p q hpq => ?_, Or.inr (by omega)⟩
    rw [hU]
    have hp := hI p q hpq
    by_cases c : 12 * q + p = 12 * v + u
    · have ep : p = u := by omega
      have eq : q = v := by omega
      subst ep; subst eq
      dsimp only
      rw [if_pos c]
      obtain ⟨n, hn⟩ : ∃ n, m_wk w h A B n x y (f (12 * y + x)) := by
        rcases hx.1 with q1 | ⟨_, q2⟩
        · omega
        · exact q2
      refine ⟨Or.inr ⟨hv0, n + 1, x, y, f (12 * y + x), hn, hadj, huv, hb, hval.symm⟩, fun hs => ?_, by omega⟩
      have := hp.2.1 hs
      omega
    · dsimp only
      rw [if_neg c]
      refine ⟨hp.1, hp.2.1, by omega⟩
/-- where nothing more is to be made less, the sums are the least -/
theorem m_fix {w h : Int} {A B : Int → Int → Int} {f : Int → Int} (hI : m_winv w h A B f) (hr : ∀ x y u v : Int, m_in w h x y → m_in w h u v → m_adj x y u v → 0 ≤ f (12 * y + x) → ¬ B u v = -2000000000 → 0 ≤ f (12 * v + u) ∧ f (12 * v + u) ≤ f (12 * y + x) + m_ct B u v) : m_isw w h A B (fun x y => f (12 * y + x)) := by
  have key : ∀ (n : Nat) (x y c : Int), m_wk w h A B n x y c → 0 ≤ f (12 * y + x) ∧ f (12 * y + x) ≤ c := by
    intro n
    induction n with
    | zero =>
      intro x y c hw
      obtain ⟨h1, h2, rfl⟩ := hw
      have := (hI x y h1).2.1 h2
      omega
    | succ n ih =>
      intro x y c hw
      obtain ⟨u, v, c', h1, h2, h3, h4, rfl⟩ := hw
      have q1 := ih u v c' h1
      have q2 := (m_wk_0 n u v c' h1).2
      have q3 := hr u v x y q2 h3 h2 q1.1 h4
      omega
  intro x y hxy
  rcases (hI x y hxy).1 with q | ⟨q1, q2⟩
  · refine Or.inl ⟨q, fun n c hw => ?_⟩
    have := key n x y c hw
    omega
  · exact Or.inr ⟨q1, q2, fun n c hw => (key n x y c hw).2⟩

