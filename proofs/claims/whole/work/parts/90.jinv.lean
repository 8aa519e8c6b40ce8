/-! class and reference side by side: what holds between calls -/
/-- plans, sizes, numbers -/
def j_a (μ : QM) (P Q w h n : Int) : Prop := (μ 0 5 = P ∧ μ 0 6 = Q ∧ q_pl Q ∧ ¬ P = Q) ∧ (μ P 2 = n ∧ μ 85 7 = n ∧ μ 85 2 = w ∧ μ 85 3 = h) ∧ (μ 0 7 = μ 85 36 ∧ q_r (μ 85 36)) ∧ (μ 0 8 = μ 85 1 ∧ q_r (μ 85 1)) ∧ μ 20 6 = μ 85 14 ∧ (∀ j : Int, 0 ≤ j → j < 10 → q_mk (μ 22 j)) ∧ (∀ j : Int, j < 0 ∨ 26 ≤ j → μ 104 j = -1)
/-- sheets and images -/
def j_im (μ : QM) (w h k : Int) : Prop := (∀ s x y : Int, 0 ≤ s → s < 4 → 0 ≤ x → x < 12 → 0 ≤ y → y < 12 → μ (9 + k) (196 * s + c_p x y) = μ 87 (576 * k + (144 * s + 12 * y + x))) ∧ (∀ s u v : Int, 0 ≤ s → s < 4 → -1 ≤ u → u ≤ 12 → -1 ≤ v → v ≤ 12 → ¬ m_in w h u v → μ (9 + k) (196 * s + c_p u v) = -2000000000) ∧ (∀ s u v : Int, 0 ≤ s → s < 4 → m_in w h u v → m_vr (μ (9 + k) (196 * s + c_p u v)))
def j_s (μ : QM) (w h : Int) : Prop := (∀ s x y : Int, 0 ≤ s → s < 4 → 0 ≤ x → x < 12 → 0 ≤ y → y < 12 → μ (4 + s) (c_p x y) = μ 86 (144 * s + 12 * y + x)) ∧ (∀ s u v : Int, 0 ≤ s → s < 4 → -1 ≤ u → u ≤ 12 → -1 ≤ v → v ≤ 12 → ¬ m_in w h u v → μ (4 + s) (c_p u v) = -2000000000) ∧ (∀ j : Int, q_r (μ 86 j) ∧ q_r (μ 87 j)) ∧ (∀ j : Int, μ 88 j = 0 ∨ μ 88 j = 1) ∧ ∀ k : Int, 0 ≤ k → k < 3 → μ 12 k = μ 88 k ∧ (μ 88 k = 1 → j_im μ w h k)
/-- the tape -/
def j_t (μ : QM) : Prop := μ 13 1 = μ 85 31 ∧ m_tp (μ 105) (μ 85 31) ∧ ∀ j : Int, μ 14 j = μ 105 j
/-- the boards -/
def j_p (μ : QM) (P Q n : Int) : Prop := (∀ b : Int, 0 ≤ b → b < n → μ (P + 3 + b) 2 = μ 89 b ∧ μ (P + 3 + b) 4 = μ 91 b ∧ μ (P + 3 + b) 1 = μ 93 b ∧ (μ 89 b = 10 ∨ μ 89 b = 11 → μ (P + 3 + b) 3 = μ 90 b) ∧ q_r (μ 90 b) ∧ ∀ k : Int, 0 ≤ k → k < μ 93 b → μ (P + 3 + b + 10) k = μ 92 (3 * b + k)) ∧ ∀ i k : Int, 0 ≤ i → i < 10 → 0 ≤ k → k < 3 → (0 ≤ μ (P + 13 + i) k ∧ μ (P + 13 + i) k < 10) ∧ (0 ≤ μ (Q + 13 + i) k ∧ μ (Q + 13 + i) k < 10)
/-- fresh tiles -/
def j_f (μ : QM) : Prop := (∀ b t : Int, 0 ≤ b → b < 10 → 0 ≤ t → t < 9 → μ 94 (9 * b + t) = q_b (q_bit (μ 21 b) t.toNat = true)) ∧ ∀ j : Int, μ 94 j = 0 ∨ μ 94 j = 1
def J9 (P Q w h n : Int) (μ : QM) : Prop := c_ok μ P w h n ∧ j_a μ P Q w h n ∧ j_s μ w h ∧ j_t μ ∧ j_p μ P Q n ∧ j_f μ
/-- after at most c calls -/
def J (c : Nat) (μ : QM) : Prop := (0 ≤ μ 85 14 ∧ μ 85 14 ≤ 90 * c) ∧ ∃ P Q w h n : Int, J9 P Q w h n μ
/-- cells of which nothing is said -/
def j_jk (a j : Int) : Prop := (a = 85 ∧ (j = 0 ∨ (17 ≤ j ∧ j ≤ 20) ∨ j = 23 ∨ (32 ≤ j ∧ j ≤ 35) ∨ j = 37)) ∨ (95 ≤ a ∧ a ≤ 103) ∨ (a = 104 ∧ 0 ≤ j ∧ j < 26) ∨ (a = 35 ∨ a = 37 ∨ a = 38) ∨ (a = 15 ∧ j = 1) ∨ (16 ≤ a ∧ a ≤ 19)
theorem c_ok_cg {μ ν : QM} {P w h n : Int} (f : ∀ a j : Int, (a = 21 ∨ a = 1 ∨ a = 36 ∨ (a = 20 ∧ j = 5) ∨ (4 ≤ a ∧ a < 8) ∨ (24 ≤ a ∧ a < 34) ∨ (P ≤ a ∧ a ≤ P + 22)) → ν a j = μ a j) (hok : c_ok μ P w h n) : c_ok ν P w h n := by
  obtain ⟨kb, kv, kf, kr⟩ := hok
  have hP := kb.1
  have hn := kb.2.2.2.2.2.2.2.1
  have e := f
  have rc1 : ∀ b j : Int, 0 ≤ b → b < 10 → ν (P + 3 + b) j = μ (P + 3 + b) j := fun b j b0 b1 => e _ j (by omega)
  have rc2 : ∀ b j : Int, 0 ≤ b → b < 10 → ν (P + 3 + b + 10) j = μ (P + 3 + b + 10) j := fun b j b0 b1 => e _ j (by omega)
  have val : ∀ b j : Int, 0 ≤ b → b < 10 → ν (24 + b) j = μ (24 + b) j := fun b j b0 b1 => e _ j (by omega)
  have e21 : ∀ j : Int, ν 21 j = μ 21 j := fun j => e 21 j (by omega)
  have eV : ∀ b x y : Int, 0 ≤ b → b < n → m_in w h x y → c_vM ν P w h b x y = c_vM μ P w h b x y := fun b x y b0 b1 hxy => by
    refine n_V_loc (n := n) (L := fun _ _ => False) kb.2.2.1 (by omega) (fun c c0 c1 => ?_) (fun c c0 c1 => (kb.2.2.2.2.2.2.2.2 c c0 c1).2.2.2.1) (fun c x y c0 c1 ck q _ => ?_) (fun _ _ _ _ _ _ _ _ _ _ _ q => q) (b + 1).toNat b x y (by omega) b0 b1 hxy (fun q => q)
    · obtain ⟨r1, r2, r3, r4, r5, r6, r7, r8, r9⟩ := kb.2.2.2.2.2.2.2.2 c c0 c1
      have := m_mn_b (μ (P + 3 + c) 2)
      exact ⟨rc1 c 2 c0 (by omega), rc1 c 3 c0 (by omega), rc1 c 4 c0 (by omega), fun k k0 k1 => ⟨rc2 c k c0 (by omega), (r7 k k0 (by have k1 : k < m_mn (μ (P + 3 + c) 2) := k1; omega)).1, r8 k k0 k1⟩⟩
    · obtain ⟨r1, r2, r3, -⟩ := kb.2.2.2.2.2.2.2.2 c c0 c1
      have := r3 ck
      exact e _ _ (by omega)
  refine ⟨?_, ⟨fun i i0 i1 => ?_, fun s u v s0 s1 q => ?_⟩, ⟨fun b b0 b1 => ?_, fun b t b0 b1 q => ?_, fun b k t u b0 b1 q k0 k1 st => ?_⟩, fun b u v b0 b1 q st => ?_⟩
  · obtain ⟨hP, h5, hd, ew, eh, et, hs, hn, hr⟩ := kb
    refine ⟨hP, (e 20 5 (by omega)).trans h5, hd, (e 1 0 (by omega)).trans ew, (e 1 1 (by omega)).trans eh, (e 1 2 (by omega)).trans et, ?_, hn, fun b b0 b1 => ?_⟩
    · rw [c_sd, e 36 _ (by omega), e 36 _ (by omega), e 36 _ (by omega), e 36 _ (by omega)]
      exact hs
    · have := hr b b0 b1
      unfold c_ro at this ⊢
      have e1 : ∀ j : Int, ν (P + 3 + b) j = μ (P + 3 + b) j := fun j => rc1 b j b0 (by omega)
      have e2 : ∀ j : Int, ν (P + 3 + b + 10) j = μ (P + 3 + b + 10) j := fun j => rc2 b j b0 (by omega)
      simp only [e1, e2]
      exact this
  · obtain ⟨v1, v2⟩ := kv.1 i i0 i1
    exact ⟨fun u v u0 u1 v0 v1' hn' => by rw [val i _ i0 i1]; exact v1 u v u0 u1 v0 v1' hn', fun u v huv => by show m_vr (ν (24 + i) (c_p u v)); rw [val i _ i0 i1]; exact v2 u v huv⟩
  · show m_vr (ν (4 + s) (c_p u v))
    rw [e _ _ (by omega)]
    exact kv.2 s u v s0 s1 q
  · rw [e21]
    exact kf.1 b b0 b1
  · rw [e21] at q
    exact kf.2.1 b t b0 b1 q
  · rw [e21] at q
    have k1 : k < ν (P + 3 + b) 1 := k1
    have st : n_st w h (ν (P + 3 + b) 2) t u := st
    show q_bit (ν 21 (ν (P + 3 + b + 10) k)) u = true
    rw [rc1 b 1 b0 (by omega)] at k1
    rw [rc1 b 2 b0 (by omega)] at st
    rw [rc2 b k b0 (by omega), e21]
    exact kf.2.2 b k t u b0 b1 q k0 k1 st
  · have st : (n_wh (ν (P + 3 + b) 2) → ¬ ν 21 b = 0) ∧ (¬ n_wh (ν (P + 3 + b) 2) → q_bit (ν 21 b) (c_ti u v).toNat = true) := st
    rw [rc1 b 2 b0 (by omega), e21] at st
    show ν (24 + b) (c_p u v) = _
    rw [val b _ b0 (by omega), eV b u v b0 b1 q]
    exact kr b u v b0 b1 q st
theorem j_s_jk {μ ν : QM} {w h : Int} (f : ∀ a j : Int, (4 ≤ a ∧ a < 8) ∨ (9 ≤ a ∧ a ≤ 12) ∨ (86 ≤ a ∧ a ≤ 88) → ν a j = μ a j) (hs : j_s μ w h) : j_s ν w h := by
  obtain ⟨s1, s2, s3, s4, s5⟩ := hs
  refine ⟨fun s x y a b c d g i => ?_, fun s u v a b c d g i q => ?_, fun j => ?_, fun j => ?_, fun k k0 k1 => ⟨?_, fun q => ?_⟩⟩
  · rw [f _ _ (by omega), f 86 _ (by omega)]
    exact s1 s x y a b c d g i
  · rw [f _ _ (by omega)]
    exact s2 s u v a b c d g i q
  · rw [f 86 _ (by omega), f 87 _ (by omega)]
    exact s3 j
  · rw [f 88 _ (by omega)]
    exact s4 j
  · rw [f 12 _ (by omega), f 88 _ (by omega)]
    exact (s5 k k0 k1).1
  · rw [f 88 _ (by omega)] at q
    obtain ⟨i1, i2, i3⟩ := (s5 k k0 k1).2 q
    refine ⟨fun s x y a b c d g i => ?_, fun s u v a b c d g i q => ?_, fun s u v a b q => ?_⟩
    · rw [f (9 + k) _ (by omega), f 87 _ (by omega)]
      exact i1 s x y a b c d g i
    · rw [f (9 + k) _ (by omega)]
      exact i2 s u v a b c d g i q
    · rw [f (9 + k) _ (by omega)]
      exact i3 s u v a b q
theorem j_p_jk {μ ν : QM} {P Q n : Int} (hP : q_pl P) (hQ : q_pl Q) (hn : n ≤ 10) (f : ∀ a j : Int, (P ≤ a ∧ a ≤ P + 22) ∨ (Q ≤ a ∧ a ≤ Q + 22) ∨ (89 ≤ a ∧ a ≤ 93) → ν a j = μ a j) (hp : j_p μ P Q n) : j_p ν P Q n := by
  obtain ⟨p1, p2⟩ := hp
  refine ⟨fun b b0 b1 => ?_, fun i k i0 i1 k0 k1 => ?_⟩
  · obtain ⟨a1, a2, a3, a4, a5, a6⟩ := p1 b b0 b1
    refine ⟨?_, ?_, ?_, fun q => ?_, ?_, fun k k0 k1 => ?_⟩
    · rw [f _ _ (by omega), f 89 _ (by omega)]; exact a1
    · rw [f _ _ (by omega), f 91 _ (by omega)]; exact a2
    · rw [f _ _ (by omega), f 93 _ (by omega)]; exact a3
    · rw [f 89 _ (by omega)] at q
      rw [f _ _ (by omega), f 90 _ (by omega)]; exact a4 q
    · rw [f 90 _ (by omega)]; exact a5
    · rw [f 93 _ (by omega)] at k1
      rw [f _ _ (by omega), f 92 _ (by omega)]; exact a6 k k0 k1
  · rw [f (P + 13 + i) _ (by omega), f (Q + 13 + i) _ (by omega)]
    exact p2 i k i0 i1 k0 k1
theorem j_a_cg {μ ν : QM} {P Q w h n : Int} (f : ∀ a j : Int, (a = 0 ∧ 5 ≤ j ∧ j ≤ 8) ∨ (a = P ∧ j = 2) ∨ (a = 85 ∧ (j = 1 ∨ j = 2 ∨ j = 3 ∨ j = 7 ∨ j = 14 ∨ j = 36)) ∨ (a = 20 ∧ j = 6) ∨ a = 22 ∨ (a = 104 ∧ (j < 0 ∨ 26 ≤ j)) → ν a j = μ a j) (ha : j_a μ P Q w h n) : j_a ν P Q w h n := by
  obtain ⟨⟨a1, a2, a3, a4⟩, ⟨a5, a6, a7, a8⟩, ⟨a9, a10⟩, ⟨a11, a12⟩, a13, a14, a15⟩ := ha
  refine ⟨⟨?_, ?_, a3, a4⟩, ⟨?_, ?_, ?_, ?_⟩, ⟨?_, ?_⟩, ⟨?_, ?_⟩, ?_, fun j j0 j1 => ?_, fun j q => ?_⟩
  · rw [f 0 5 (by omega)]; exact a1
  · rw [f 0 6 (by omega)]; exact a2
  · rw [f P 2 (by omega)]; exact a5
  · rw [f 85 7 (by omega)]; exact a6
  · rw [f 85 2 (by omega)]; exact a7
  · rw [f 85 3 (by omega)]; exact a8
  · rw [f 0 7 (by omega), f 85 36 (by omega)]; exact a9
  · rw [f 85 36 (by omega)]; exact a10
  · rw [f 0 8 (by omega), f 85 1 (by omega)]; exact a11
  · rw [f 85 1 (by omega)]; exact a12
  · rw [f 20 6 (by omega), f 85 14 (by omega)]; exact a13
  · rw [f 22 j (by omega)]; exact a14 j j0 j1
  · rw [f 104 j (by omega)]; exact a15 j q
theorem j_t_cg {μ ν : QM} (f : ∀ a j : Int, (a = 13 ∧ j = 1) ∨ a = 14 ∨ a = 105 ∨ (a = 85 ∧ j = 31) → ν a j = μ a j) (ht : j_t μ) : j_t ν := by
  obtain ⟨t1, t2, t3⟩ := ht
  refine ⟨?_, ?_, fun j => ?_⟩
  · rw [f 13 1 (by omega), f 85 31 (by omega)]; exact t1
  · rw [f 85 31 (by omega), show ν 105 = μ 105 from funext fun j => f 105 j (by omega)]; exact t2
  · rw [f 14 j (by omega), f 105 j (by omega)]; exact t3 j
theorem j_f_cg {μ ν : QM} (f : ∀ a j : Int, a = 21 ∨ a = 94 → ν a j = μ a j) (hf : j_f μ) : j_f ν := by
  obtain ⟨f1, f2⟩ := hf
  refine ⟨fun b t b0 b1 t0 t1 => ?_, fun j => ?_⟩
  · rw [f 94 _ (by omega), f 21 _ (by omega)]; exact f1 b t b0 b1 t0 t1
  · rw [f 94 _ (by omega)]; exact f2 j
/-- J9 does not look at them -/
theorem J9_jk {P Q w h n : Int} {μ ν : QM} (f : ∀ a j : Int, ¬ j_jk a j → ν a j = μ a j) (hJ : J9 P Q w h n μ) : J9 P Q w h n ν := by
  obtain ⟨k1, k2, k3, k4, k5, k6⟩ := hJ
  have hP := k1.1.1
  have hQ := k2.1.2.2.1
  have hn := k1.1.2.2.2.2.2.2.2.1
  exact ⟨c_ok_cg (fun a j q => f a j (by unfold j_jk; omega)) k1, j_a_cg (fun a j q => f a j (by unfold j_jk; omega)) k2, j_s_jk (fun a j q => f a j (by unfold j_jk; omega)) k3, j_t_cg (fun a j q => f a j (by unfold j_jk; omega)) k4, j_p_jk hP hQ hn.2 (fun a j q => f a j (by unfold j_jk; omega)) k5, j_f_cg (fun a j q => f a j (by unfold j_jk; omega)) k6⟩

