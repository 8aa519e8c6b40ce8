/-! the class: ways -/
/-- the row of ways, at any time -/
def w_in (μ : QM) (a b out w h : Int) (ν : QM) : Prop := (∀ c j : Int, ¬ c = out → ν c j = μ c j) ∧ c_gp ν out w h ∧ w_so w h (c_A μ a) (c_A μ b) (c_A ν out) ∧ (∀ x y : Int, m_in w h x y → m_src (c_A μ a) (c_A μ b) x y → c_A ν out x y = 0)
theorem w_in_wr {μ ν : QM} {a b out w h : Int} (hi : w_in μ a b out w h ν) : ∀ p : Int, 0 ≤ p → p < 196 → c_wr (ν out p) := fun p p0 p1 => by
  obtain ⟨u, v, u0, u1, v0, v1, rfl⟩ := c_p_ex ⟨p0, p1⟩
  by_cases c : m_in w h u v
  · rcases hi.2.2.1 u v c with q | ⟨q1, q2, q3⟩
    · exact Or.inl q
    · exact Or.inr ⟨q1, q2⟩
  · exact Or.inl (hi.2.1 u v u0 u1 v0 v1 c)
theorem c_p_inj {x y u v : Int} (hx : -1 ≤ x ∧ x ≤ 12) (hu : -1 ≤ u ∧ u ≤ 12) (e : c_p x y = c_p u v) : x = u ∧ y = v := by
  have e : (y + 1) * 14 + x + 1 = (v + 1) * 14 + u + 1 := e
  omega
/-- the sides of a place are the cells beside it -/
theorem w_side {μ : QM} (hs : c_sd μ) {x y u v : Int} (ha : m_adj u v x y) : ∃ d : Nat, d < 4 ∧ c_p x y + μ 36 d = c_p u v := by
  obtain ⟨s0, s1, s2, s3⟩ := hs
  rcases ha with q | q | q | q
  · refine ⟨2, by omega, ?_⟩
    rw [show μ 36 ((2 : Nat) : Int) = -1 from s2]
    show (y + 1) * 14 + x + 1 + -1 = (v + 1) * 14 + u + 1
    omega
  · refine ⟨3, by omega, ?_⟩
    rw [show μ 36 ((3 : Nat) : Int) = -14 from s3]
    show (y + 1) * 14 + x + 1 + -14 = (v + 1) * 14 + u + 1
    omega
  · refine ⟨0, by omega, ?_⟩
    rw [show μ 36 ((0 : Nat) : Int) = 1 from s0]
    show (y + 1) * 14 + x + 1 + 1 = (v + 1) * 14 + u + 1
    omega
  · refine ⟨1, by omega, ?_⟩
    rw [show μ 36 ((1 : Nat) : Int) = 14 from s1]
    show (y + 1) * 14 + x + 1 + 14 = (v + 1) * 14 + u + 1
    omega
theorem w_side2 {μ : QM} (hs : c_sd μ) (x y : Int) {d : Nat} (hd : d < 4) : ∃ u v : Int, m_adj u v x y ∧ c_p x y + μ 36 d = c_p u v := by
  obtain ⟨s0, s1, s2, s3⟩ := hs
  have : d = 0 ∨ d = 1 ∨ d = 2 ∨ d = 3 := by omega
  rcases this with rfl | rfl | rfl | rfl
  · refine ⟨x + 1, y, by omega, ?_⟩
    rw [show μ 36 ((0 : Nat) : Int) = 1 from s0]
    show (y + 1) * 14 + x + 1 + 1 = (y + 1) * 14 + (x + 1) + 1
    omega
  · refine ⟨x, y + 1, by omega, ?_⟩
    rw [show μ 36 ((1 : Nat) : Int) = 14 from s1]
    show (y + 1) * 14 + x + 1 + 14 = (y + 1 + 1) * 14 + x + 1
    omega
  · refine ⟨x - 1, y, by omega, ?_⟩
    rw [show μ 36 ((2 : Nat) : Int) = -1 from s2]
    show (y + 1) * 14 + x + 1 + -1 = (y + 1) * 14 + (x - 1) + 1
    omega
  · refine ⟨x, y - 1, by omega, ?_⟩
    rw [show μ 36 ((3 : Nat) : Int) = -14 from s3]
    show (y + 1) * 14 + x + 1 + -14 = (y - 1 + 1) * 14 + x + 1
    omega
theorem w_stp (B : Int → Int → Int) (x y : Int) : c_stp (B x y) = m_ct B x y := by
  show (if B x y ≤ 0 then 0 else B x y) = (if B x y < 0 then 0 else B x y)
  by_cases c : B x y < 0
  · rw [if_pos c, if_pos (by omega)]
  · rw [if_neg c]
    by_cases c2 : B x y ≤ 0
    · rw [if_pos c2]
      omega
    · rw [if_neg c2]
/-- one place's turn -/
theorem w_one {μ ν : QM} {a b out w h r p : Int} {K : Int → QM → Prop} (hb : c_vn b) (ho : c_vn out) (hnb : ¬ b = out) (hs : c_sd μ) (hd : m_dim w h) (hgb : c_gp μ b w h) (hvb : ∀ u v : Int, m_in w h u v → m_vr (c_A μ b u v)) (hp : 15 ≤ p ∧ p ≤ 180) (hi : w_in μ a b out w h ν) (hP : w_P w h (c_A μ a) (c_A μ b) r (c_A ν out)) (hk : ∀ (ν' : QM) (z : Int), (z = 0 ∨ z = 1) → w_in μ a b out w h ν' → (∀ x y c : Int, w_re w h (c_A μ a) (c_A μ b) x y c → c_A ν out x y = c → c_A ν' out x y = c) → (∀ (x y c : Int) (n : Nat), w_key w h (c_A μ a) (c_A μ b) x y c n → w_rk w h (c_A μ a) (c_A μ b) c n < r + 1 → c_p x y = p → c_A ν' out x y = c) → (z = 0 → ν' = ν ∧ ∀ x y : Int, m_in w h x y → c_p x y = p → w_fx w h (c_A μ b) (c_A ν out) x y) → K z ν') : c_vn b ∧ c_vn out ∧ c_sd ν ∧ (15 ≤ p ∧ p ≤ 180) ∧ m_vr (ν b p) ∧ (∀ p : Int, 0 ≤ p → p < 196 → c_wr (ν out p)) ∧ (ν b p = -2000000000 ∨ ν out p = 0 → K 0 ν) ∧ (¬ (ν b p = -2000000000 ∨ ν out p = 0) → ∀ l : Int, l ≤ c_bef (ν out p) → (∀ d : Nat, d < 4 → ¬ ν out (p + ν 36 d) = -2000000000 → l ≤ ν out (p + ν 36 d) + c_stp (ν b p)) → (l = c_bef (ν out p) ∨ ∃ d : Nat, d < 4 ∧ ¬ ν out (p + ν 36 d) = -2000000000 ∧ l = ν out (p + ν 36 d) + c_stp (ν b p)) → (l < c_bef (ν out p) → K 1 (q_up ν out p l)) ∧ (¬ l < c_bef (ν out p) → K 0 ν)) := by
  obtain ⟨i1, i2, i3, i4⟩ := id hi
  have hs' : c_sd ν := by
    refine ⟨?_, ?_, ?_, ?_⟩
    · rw [i1 36 0 (by omega)]; exact hs.1
    · rw [i1 36 1 (by omega)]; exact hs.2.1
    · rw [i1 36 2 (by omega)]; exact hs.2.2.1
    · rw [i1 36 3 (by omega)]; exact hs.2.2.2
  obtain ⟨x0, y0, u0, u1, v0, v1, ep⟩ := c_p_ex (p := p) (by omega)
  have eb : ν b p = c_A μ b x0 y0 := by rw [i1 b p hnb, ep]
  have eo : ν out p = c_A ν out x0 y0 := by rw [ep]
  have hvp : m_vr (ν b p) := by
    rw [eb]
    by_cases c : m_in w h x0 y0
    · exact hvb x0 y0 c
    · exact Or.inl (hgb x0 y0 u0 u1 v0 v1 c)
  have same : ∀ x y : Int, m_in w h x y → c_p x y = p → x = x0 ∧ y = y0 := fun x y hxy e => c_p_inj (by omega) ⟨u0, u1⟩ (e.trans ep)
  have still : (∀ (x y c : Int) (n : Nat), w_key w h (c_A μ a) (c_A μ b) x y c n → w_rk w h (c_A μ a) (c_A μ b) c n < r + 1 → c_p x y = p → c_A ν out x y = c) → (∀ x y : Int, m_in w h x y → c_p x y = p → w_fx w h (c_A μ b) (c_A ν out) x y) → K 0 ν := fun t1 t2 => hk ν 0 (Or.inl rfl) hi (fun _ _ _ _ q => q) t1 (fun _ => ⟨rfl, t2⟩)
  refine ⟨hb, ho, hs', hp, hvp, w_in_wr hi, fun c => ?_, fun c l l1 l2 l3 => ⟨fun c1 => ?_, fun c1 => ?_⟩⟩
  · refine still (fun x y c2 n hkey hrk e => ?_) (fun x y hxy e => ?_)
    · obtain ⟨rfl, rfl⟩ := same x y (m_wk_0 n x y c2 hkey.2.1).2 e
      refine w_turn hd hP i3 i4 hkey hrk (fun q => ?_)
      rcases c with c | c
      · exact absurd (eb.symm.trans c) q
      · exact Or.inl (eo.symm.trans c)
    · obtain ⟨rfl, rfl⟩ := same x y hxy e
      intro q1 q2
      rcases c with c | c
      · exact absurd (eb.symm.trans c) q1
      · exact absurd (eo.symm.trans c) q2
  · have c3 : ¬ c_A μ b x0 y0 = -2000000000 := fun q => c (Or.inl (eb.trans q))
    have c4 : ¬ c_A ν out x0 y0 = 0 := fun q => c (Or.inr (eo.trans q))
    have hin : m_in w h x0 y0 := Classical.byContradiction fun q => c3 (hgb x0 y0 u0 u1 v0 v1 q)
    have hct : 0 ≤ m_ct (c_A μ b) x0 y0 := by
      show 0 ≤ (if c_A μ b x0 y0 < 0 then 0 else c_A μ b x0 y0)
      split <;> omega
    have ho9 : c_bef (ν out p) ≤ 1000000001 := by
      have := w_in_wr hi p (by omega) (by omega)
      show (if ν out p = -2000000000 then 1000000001 else ν out p) ≤ 1000000001
      split <;> omega
    rw [eb, w_stp] at l2 l3
    obtain ⟨d, d1, d2, d3⟩ : ∃ d : Nat, d < 4 ∧ ¬ ν out (p + ν 36 d) = -2000000000 ∧ l = ν out (p + ν 36 d) + m_ct (c_A μ b) x0 y0 := by
      rcases l3 with q | q
      · omega
      · exact q
    obtain ⟨u, v, hadj, hside⟩ := w_side2 hs' x0 y0 d1
    rw [← ep] at hside
    rw [hside] at d2 d3
    have huv : m_in w h u v := Classical.byContradiction fun q => d2 (i2 u v (by omega) (by omega) (by omega) (by omega) q)
    obtain ⟨w1, w2, n1, w3⟩ : 0 ≤ c_A ν out u v ∧ c_A ν out u v ≤ 1000000000 ∧ ∃ n, m_wk w h (c_A μ a) (c_A μ b) n u v (c_A ν out u v) := by
      rcases i3 u v huv with q | q
      · exact absurd q d2
      · exact q
    have d3 : l = c_A ν out u v + m_ct (c_A μ b) x0 y0 := d3
    have hwl : m_wk w h (c_A μ a) (c_A μ b) (n1 + 1) x0 y0 l := ⟨u, v, c_A ν out u v, w3, hadj, hin, c3, d3⟩
    have eA : ∀ x y : Int, m_in w h x y → c_A (q_up ν out p l) out x y = if x = x0 ∧ y = y0 then l else c_A ν out x y := fun x y hxy => by
      show q_up ν out p l out (c_p x y) = _
      rw [u_app]
      by_cases q : x = x0 ∧ y = y0
      · rw [if_pos ⟨rfl, by rw [ep, q.1, q.2]⟩, if_pos q]
      · rw [if_neg (fun z => q (same x y hxy z.2)), if_neg q]
    have s' : w_so w h (c_A μ a) (c_A μ b) (c_A (q_up ν out p l) out) := fun x y hxy => by
      rw [eA x y hxy]
      by_cases q : x = x0 ∧ y = y0
      · rw [if_pos q, q.1, q.2]
        exact Or.inr ⟨by omega, by omega, n1 + 1, hwl⟩
      · rw [if_neg q]
        exact i3 x y hxy
    have z' : ∀ x y : Int, m_in w h x y → m_src (c_A μ a) (c_A μ b) x y → c_A (q_up ν out p l) out x y = 0 := fun x y hxy hsr => by
      rw [eA x y hxy]
      by_cases q : x = x0 ∧ y = y0
      · rw [q.1, q.2] at hsr
        exact absurd (i4 x0 y0 hin hsr) c4
      · rw [if_neg q]
        exact i4 x y hxy hsr
    refine hk _ 1 (Or.inr rfl) ⟨fun c j nc => ?_, fun x y a1 a2 a3 a4 hn => ?_, s', z'⟩ (fun x y c2 hre e => ?_) (fun x y c2 n hkey hrk e => ?_) (fun q => absurd q (by decide))
    · rw [u_app, if_neg (fun q => nc q.1)]
      exact i1 c j nc
    · rw [u_app, if_neg (fun q => hn (by
        obtain ⟨e1, e2⟩ := c_p_inj (y := y) (v := y0) ⟨a1, a2⟩ ⟨u0, u1⟩ (q.2.trans ep)
        rw [e1, e2]
        exact hin))]
      exact i2 x y a1 a2 a3 a4 hn
    · obtain ⟨m, hm⟩ := hre.1
      have hxy := (m_wk_0 m x y c2 hm)
      rw [eA x y hxy.2]
      by_cases q : x = x0 ∧ y = y0
      · obtain ⟨rfl, rfl⟩ := q
        have q1 := hre.2.1 (n1 + 1) l hwl
        have q2 : c_bef (ν out p) = c2 := by
          rw [eo, e]
          exact if_neg (by omega)
        omega
      · rw [if_neg q]
        exact e
    · have hxy := (m_wk_0 n x y c2 hkey.2.1).2
      obtain ⟨rfl, rfl⟩ := same x y hxy e
      refine w_turn hd hP s' z' hkey hrk (fun _ => Or.inr (fun u2 v2 h2 a2 n2 => ?_))
      rw [eA x y hxy, if_pos ⟨rfl, rfl⟩]
      obtain ⟨d9, e9, f9⟩ := w_side hs' a2
      rw [← ep] at f9
      have := l2 d9 e9
      rw [f9] at this
      have e10 : c_bef l = l := if_neg (by omega)
      rw [e10]
      exact this n2
  · rw [eb, w_stp] at l2
    have hfx : w_fx w h (c_A μ b) (c_A ν out) x0 y0 := fun q1 q2 u v huv hadj hn => by
      obtain ⟨d9, e9, f9⟩ := w_side hs' hadj
      rw [← ep] at f9
      have := l2 d9 e9
      rw [f9] at this
      rw [← eo]
      exact Int.le_trans (Int.not_lt.mp c1) (this hn)
    refine still (fun x y c2 n hkey hrk e => ?_) (fun x y hxy e => ?_)
    · obtain ⟨rfl, rfl⟩ := same x y (m_wk_0 n x y c2 hkey.2.1).2 e
      refine w_turn hd hP i3 i4 hkey hrk (fun q => Or.inr (hfx q (fun z => c (Or.inr (eo.trans z)))))
    · obtain ⟨rfl, rfl⟩ := same x y hxy e
      exact hfx
def sp_X1_ways : QP := fun ra μ K => match ra with
  | [.inr (.inr out), .inr (.inr b), .inr (.inr a), .inr (.inr this)] => this = 34 ∧ c_vn a ∧ c_vn b ∧ c_vn out ∧ ¬ a = out ∧ ¬ b = out ∧ c_sd μ ∧ ∃ w h : Int, m_dim w h ∧ c_gp μ b w h ∧ c_gp μ out w h ∧ (∀ u v : Int, m_in w h u v → m_vr (c_A μ a u v) ∧ m_vr (c_A μ b u v)) ∧ ∀ ν : QM, (∀ c j : Int, ¬ c = out → ν c j = μ c j) → c_gp ν out w h → (∀ x y : Int, m_in w h x y → ν out (c_p x y) = m_way w h (c_A μ a) (c_A μ b) x y) → K none ν
  | _ => False
theorem sp_X1_ways_e (this a b out : Int) (μ : QM) (K : Option QV → QM → Prop) : sp_X1_ways [.inr (.inr out), .inr (.inr b), .inr (.inr a), .inr (.inr this)] μ K = (this = 34 ∧ c_vn a ∧ c_vn b ∧ c_vn out ∧ ¬ a = out ∧ ¬ b = out ∧ c_sd μ ∧ ∃ w h : Int, m_dim w h ∧ c_gp μ b w h ∧ c_gp μ out w h ∧ (∀ u v : Int, m_in w h u v → m_vr (c_A μ a u v) ∧ m_vr (c_A μ b u v)) ∧ ∀ ν : QM, (∀ c j : Int, ¬ c = out → ν c j = μ c j) → c_gp ν out w h → (∀ x y : Int, m_in w h x y → ν out (c_p x y) = m_way w h (c_A μ a) (c_A μ b) x y) → K none ν) := propext Iff.rfl
theorem sp_X1_ways_i {ra : List QV} {μ : QM} {K : Option QV → QM → Prop} (h : sp_X1_ways ra μ K) : ∃ this a b out : Int, ra = [.inr (.inr out), .inr (.inr b), .inr (.inr a), .inr (.inr this)] ∧ (this = 34 ∧ c_vn a ∧ c_vn b ∧ c_vn out ∧ ¬ a = out ∧ ¬ b = out ∧ c_sd μ ∧ ∃ w h : Int, m_dim w h ∧ c_gp μ b w h ∧ c_gp μ out w h ∧ (∀ u v : Int, m_in w h u v → m_vr (c_A μ a u v) ∧ m_vr (c_A μ b u v)) ∧ ∀ ν : QM, (∀ c j : Int, ¬ c = out → ν c j = μ c j) → c_gp ν out w h → (∀ x y : Int, m_in w h x y → ν out (c_p x y) = m_way w h (c_A μ a) (c_A μ b) x y) → K none ν) := by
  unfold sp_X1_ways at h
  split at h
  · exact ⟨_, _, _, _, rfl, h⟩
  · exact h.elim
def rm_X1_ways : Room := { frames := 2, cells := 0, slots := 0, locals := 49 }
def G_X1_ways : Nat → Nat × QP := fun i => match i with
  | 141 => (4, sp_X1_shorten)
  | _ => (0, fun _ _ _ => False)
theorem G_X1_ways_141 : G_X1_ways 141 = (4, sp_X1_shorten) := id rfl
/-- back through the places -/
theorem wy_112 {Rt : Option QV → QM → Prop} {S : Nat → QL → List QV → QM → Prop} (hR : q_Rule cX1_ways 7 u_X1_ways fl_X1 ld_X1 G_X1_ways q_T 4 s_X1_ways Rt S) {μ : QM} {a b out w h : Int} {r : Int} (hb : c_vn b) (ho : c_vn out) (hnb : ¬ b = out) (hs : c_sd μ) (hd : m_dim w h) (hgb : c_gp μ b w h) (hvb : ∀ u v : Int, m_in w h u v → m_vr (c_A μ b u v)) (hk : ∀ (z : Int) (ν : QM) (l6 : Option QV), (z = 0 ∨ z = 1) → w_in μ a b out w h ν → w_P w h (c_A μ a) (c_A μ b) (r + 1) (c_A ν out) → (z = 0 → ∀ x y : Int, m_in w h x y → w_fx w h (c_A μ b) (c_A ν out) x y) → S 50 [some (.inr (.inr 34)), some (.inr (.inr a)), some (.inr (.inr b)), some (.inr (.inr out)), some (.inl z), some (.inl (r + 1)), l6] [] ν) : ∀ (d : Nat) (z p : Int) (ν : QM), p - d = 14 → p ≤ 180 → (z = 0 ∨ z = 1) → w_in μ a b out w h ν → w_P w h (c_A μ a) (c_A μ b) (r + 1) (c_A ν out) → (z = 0 → ∀ x y : Int, m_in w h x y → w_fx w h (c_A μ b) (c_A ν out) x y) → S 112 [some (.inr (.inr 34)), some (.inr (.inr a)), some (.inr (.inr b)), some (.inr (.inr out)), some (.inl z), some (.inl r), some (.inl p)] [] ν := by
  intro d
  induction d with
  | zero =>
    intro z p ν h1 h2 hz hi hP hf
    obtain rfl : p = 14 := by omega
    refine hR 60 b_X1_ways_112 112 _ _ _ o_X1_ways_112 ?_
    simp only [v_opt_n, v_opt_s, v_nil, v_iconst, v_bipush, v_sipush, v_lconst0, v_lconst1, v_ldc, v_ldcw, v_ldc2, v_iload0, v_iload1, v_iload2, v_iload3, v_iload, v_lload0, v_lload1, v_lload2, v_lload3, v_lload, v_aload0, v_aload1, v_aload2, v_aload3, v_aload, v_istore0, v_istore1, v_istore2, v_istore3, v_istore, v_lstore0, v_lstore1, v_lstore2, v_lstore3, v_lstore, v_astore0, v_astore1, v_astore2, v_astore3, v_astore, v_iinc, v_iadd, v_isub, v_imul, v_iand, v_ior, v_ixor, v_ishl, v_ishr, v_iushr, v_ineg, v_idiv, v_irem, v_ladd, v_lsub, v_lmul, v_lcmp, v_i2l, v_l2i, v_i2c, v_dup, v_dup2, v_if_eq, v_if_ne, v_if_lt, v_if_ge, v_if_gt, v_if_le, v_ic_eq, v_ic_ne, v_ic_lt, v_ic_ge, v_ic_gt, v_ic_le, v_goto, v_tsw, v_lsw, v_ireturn, v_areturn, v_return, v_iaload, v_laload, v_baload, v_caload, v_aaload, v_iastore, v_lastore, v_bastore, v_castore, v_alen, v_invvi, v_invst, v_invsp, e_int, e_lng, e_ref, e_lg0, e_lg1, e_lg2, e_lg3, e_lg4, e_lg5, e_lg6, e_lg7, e_lg8, e_lg9, e_lg10, e_lg11, e_lg12, e_lg13, e_clrI, e_clrJ, e_clrP, e_clrN, e_s0, e_s1, e_s2, e_s3, e_s4, e_s5, e_s6, e_s7, e_s8, e_s9, e_s10, e_s11, e_s12, e_s13, e_t0, e_t1, e_t2, e_t3, e_t4, e_t5, e_t6, e_t7, e_t8, e_t9, e_t10, e_t11, e_t12, e_t13, e_fd, e_kk, e_k0, e_k1, e_k2, e_k3, e_k4, e_k5, e_k6, e_k7, e_k8, e_k9, e_sv0, e_sv1, e_sv2, e_sv3, e_svc, e_pf0, e_pf1, e_pf2, e_pf3, e_ar, e_aa, e_al, e_sw1, e_sw2, e_ct0, e_ct1, e_ct2, e_cat0, e_cat1, e_rk0, e_rk1, e_rk2, e_inv0, e_inv1, e_inv2, e_inv3, e_inv4, e_inv5, e_inv6, e_o0, e_o1, e_cl, e_cle, e_cg, e_cge, e_ce, e_cr1, e_cr2, e_r, e_R, e_up, Int.cast_ofNat_Int, u_app, false_and, and_false, e_b0, e_b1, e_bn, e_bl, e_bu, Int.reduceLE, Int.reduceLT, Int.reduceEq, Int.reduceNeg, Int.reduceAdd, Int.reduceSub, Int.reduceMul, Nat.reduceLeDiff, Nat.reduceLT, Nat.reduceAdd, Nat.reduceEqDiff, true_and, and_true, true_or, or_true, false_or, or_false, forall_const, not_true_eq_false, not_false_eq_true, true_implies, false_implies, implies_true, and_self, zero_ne_one, one_ne_zero, eq_self, reduceIte, s_X1_ways_0, b_X1_ways_0, s_X1_ways_4, b_X1_ways_4, s_X1_ways_12, b_X1_ways_12, s_X1_ways_24, b_X1_ways_24, s_X1_ways_31, b_X1_ways_31, s_X1_ways_35, b_X1_ways_35, s_X1_ways_37, b_X1_ways_37, s_X1_ways_44, b_X1_ways_44, s_X1_ways_50, b_X1_ways_50, s_X1_ways_55, b_X1_ways_55, s_X1_ways_63, b_X1_ways_63, s_X1_ways_70, b_X1_ways_70, s_X1_ways_78, b_X1_ways_78, s_X1_ways_89, b_X1_ways_89, s_X1_ways_94, b_X1_ways_94, s_X1_ways_98, b_X1_ways_98, s_X1_ways_99, b_X1_ways_99, s_X1_ways_107, b_X1_ways_107, s_X1_ways_112, b_X1_ways_112, s_X1_ways_119, b_X1_ways_119, s_X1_ways_130, b_X1_ways_130, s_X1_ways_135, b_X1_ways_135, s_X1_ways_139, b_X1_ways_139, s_X1_ways_140, b_X1_ways_140, s_X1_ways_148, b_X1_ways_148, s_X1_ways_154, b_X1_ways_154, ld_X1_100, G_X1_ways_141, sp_X1_shorten_e]
    exact hk z ν _ hz hi hP hf
  | succ d ih =>
    intro z p ν h1 h2 hz hi hP hf
    rcases hz with rfl | rfl
    · refine hR 60 b_X1_ways_112 112 _ _ _ o_X1_ways_112 ?_
      simp only [v_opt_n, v_opt_s, v_nil, v_iconst, v_bipush, v_sipush, v_lconst0, v_lconst1, v_ldc, v_ldcw, v_ldc2, v_iload0, v_iload1, v_iload2, v_iload3, v_iload, v_lload0, v_lload1, v_lload2, v_lload3, v_lload, v_aload0, v_aload1, v_aload2, v_aload3, v_aload, v_istore0, v_istore1, v_istore2, v_istore3, v_istore, v_lstore0, v_lstore1, v_lstore2, v_lstore3, v_lstore, v_astore0, v_astore1, v_astore2, v_astore3, v_astore, v_iinc, v_iadd, v_isub, v_imul, v_iand, v_ior, v_ixor, v_ishl, v_ishr, v_iushr, v_ineg, v_idiv, v_irem, v_ladd, v_lsub, v_lmul, v_lcmp, v_i2l, v_l2i, v_i2c, v_dup, v_dup2, v_if_eq, v_if_ne, v_if_lt, v_if_ge, v_if_gt, v_if_le, v_ic_eq, v_ic_ne, v_ic_lt, v_ic_ge, v_ic_gt, v_ic_le, v_goto, v_tsw, v_lsw, v_ireturn, v_areturn, v_return, v_iaload, v_laload, v_baload, v_caload, v_aaload, v_iastore, v_lastore, v_bastore, v_castore, v_alen, v_invvi, v_invst, v_invsp, e_int, e_lng, e_ref, e_lg0, e_lg1, e_lg2, e_lg3, e_lg4, e_lg5, e_lg6, e_lg7, e_lg8, e_lg9, e_lg10, e_lg11, e_lg12, e_lg13, e_clrI, e_clrJ, e_clrP, e_clrN, e_s0, e_s1, e_s2, e_s3, e_s4, e_s5, e_s6, e_s7, e_s8, e_s9, e_s10, e_s11, e_s12, e_s13, e_t0, e_t1, e_t2, e_t3, e_t4, e_t5, e_t6, e_t7, e_t8, e_t9, e_t10, e_t11, e_t12, e_t13, e_fd, e_kk, e_k0, e_k1, e_k2, e_k3, e_k4, e_k5, e_k6, e_k7, e_k8, e_k9, e_sv0, e_sv1, e_sv2, e_sv3, e_svc, e_pf0, e_pf1, e_pf2, e_pf3, e_ar, e_aa, e_al, e_sw1, e_sw2, e_ct0, e_ct1, e_ct2, e_cat0, e_cat1, e_rk0, e_rk1, e_rk2, e_inv0, e_inv1, e_inv2, e_inv3, e_inv4, e_inv5, e_inv6, e_o0, e_o1, e_cl, e_cle, e_cg, e_cge, e_ce, e_cr1, e_cr2, e_r, e_R, e_up, Int.cast_ofNat_Int, u_app, false_and, and_false, e_b0, e_b1, e_bn, e_bl, e_bu, Int.reduceLE, Int.reduceLT, Int.reduceEq, Int.reduceNeg, Int.reduceAdd, Int.reduceSub, Int.reduceMul, Nat.reduceLeDiff, Nat.reduceLT, Nat.reduceAdd, Nat.reduceEqDiff, true_and, and_true, true_or, or_true, false_or, or_false, forall_const, not_true_eq_false, not_false_eq_true, true_implies, false_implies, implies_true, and_self, zero_ne_one, one_ne_zero, eq_self, reduceIte, s_X1_ways_0, b_X1_ways_0, s_X1_ways_4, b_X1_ways_4, s_X1_ways_12, b_X1_ways_12, s_X1_ways_24, b_X1_ways_24, s_X1_ways_31, b_X1_ways_31, s_X1_ways_35, b_X1_ways_35, s_X1_ways_37, b_X1_ways_37, s_X1_ways_44, b_X1_ways_44, s_X1_ways_50, b_X1_ways_50, s_X1_ways_55, b_X1_ways_55, s_X1_ways_63, b_X1_ways_63, s_X1_ways_70, b_X1_ways_70, s_X1_ways_78, b_X1_ways_78, s_X1_ways_89, b_X1_ways_89, s_X1_ways_94, b_X1_ways_94, s_X1_ways_98, b_X1_ways_98, s_X1_ways_99, b_X1_ways_99, s_X1_ways_107, b_X1_ways_107, s_X1_ways_112, b_X1_ways_112, s_X1_ways_119, b_X1_ways_119, s_X1_ways_130, b_X1_ways_130, s_X1_ways_135, b_X1_ways_135, s_X1_ways_139, b_X1_ways_139, s_X1_ways_140, b_X1_ways_140, s_X1_ways_148, b_X1_ways_148, s_X1_ways_154, b_X1_ways_154, ld_X1_100, G_X1_ways_141, sp_X1_shorten_e]
      refine ⟨by omega, fun c => by omega, fun c => ⟨by omega, by omega, w_one (K := fun z2 ν' => S 112 [some (.inr (.inr 34)), some (.inr (.inr a)), some (.inr (.inr b)), some (.inr (.inr out)), some (.inl z2), some (.inl r), some (.inl (p + -1))] [] ν') (r := r + 1) hb ho hnb hs hd hgb hvb ⟨by omega, h2⟩ hi hP (fun ν' z2 hz2 hi' pers turn zz => ih z2 (p + -1) ν' (by omega) (by omega) hz2 hi' (fun x y c n hkey hrk => pers x y c hkey.1 (hP x y c n hkey hrk)) (fun q => ?_))⟩⟩
      rw [(zz q).1]
      exact hf rfl
    · refine hR 60 b_X1_ways_112 112 _ _ _ o_X1_ways_112 ?_
      simp only [v_opt_n, v_opt_s, v_nil, v_iconst, v_bipush, v_sipush, v_lconst0, v_lconst1, v_ldc, v_ldcw, v_ldc2, v_iload0, v_iload1, v_iload2, v_iload3, v_iload, v_lload0, v_lload1, v_lload2, v_lload3, v_lload, v_aload0, v_aload1, v_aload2, v_aload3, v_aload, v_istore0, v_istore1, v_istore2, v_istore3, v_istore, v_lstore0, v_lstore1, v_lstore2, v_lstore3, v_lstore, v_astore0, v_astore1, v_astore2, v_astore3, v_astore, v_iinc, v_iadd, v_isub, v_imul, v_iand, v_ior, v_ixor, v_ishl, v_ishr, v_iushr, v_ineg, v_idiv, v_irem, v_ladd, v_lsub, v_lmul, v_lcmp, v_i2l, v_l2i, v_i2c, v_dup, v_dup2, v_if_eq, v_if_ne, v_if_lt, v_if_ge, v_if_gt, v_if_le, v_ic_eq, v_ic_ne, v_ic_lt, v_ic_ge, v_ic_gt, v_ic_le, v_goto, v_tsw, v_lsw, v_ireturn, v_areturn, v_return, v_iaload, v_laload, v_baload, v_caload, v_aaload, v_iastore, v_lastore, v_bastore, v_castore, v_alen, v_invvi, v_invst, v_invsp, e_int, e_lng, e_ref, e_lg0, e_lg1, e_lg2, e_lg3, e_lg4, e_lg5, e_lg6, e_lg7, e_lg8, e_lg9, e_lg10, e_lg11, e_lg12, e_lg13, e_clrI, e_clrJ, e_clrP, e_clrN, e_s0, e_s1, e_s2, e_s3, e_s4, e_s5, e_s6, e_s7, e_s8, e_s9, e_s10, e_s11, e_s12, e_s13, e_t0, e_t1, e_t2, e_t3, e_t4, e_t5, e_t6, e_t7, e_t8, e_t9, e_t10, e_t11, e_t12, e_t13, e_fd, e_kk, e_k0, e_k1, e_k2, e_k3, e_k4, e_k5, e_k6, e_k7, e_k8, e_k9, e_sv0, e_sv1, e_sv2, e_sv3, e_svc, e_pf0, e_pf1, e_pf2, e_pf3, e_ar, e_aa, e_al, e_sw1, e_sw2, e_ct0, e_ct1, e_ct2, e_cat0, e_cat1, e_rk0, e_rk1, e_rk2, e_inv0, e_inv1, e_inv2, e_inv3, e_inv4, e_inv5, e_inv6, e_o0, e_o1, e_cl, e_cle, e_cg, e_cge, e_ce, e_cr1, e_cr2, e_r, e_R, e_up, Int.cast_ofNat_Int, u_app, false_and, and_false, e_b0, e_b1, e_bn, e_bl, e_bu, Int.reduceLE, Int.reduceLT, Int.reduceEq, Int.reduceNeg, Int.reduceAdd, Int.reduceSub, Int.reduceMul, Nat.reduceLeDiff, Nat.reduceLT, Nat.reduceAdd, Nat.reduceEqDiff, true_and, and_true, true_or, or_true, false_or, or_false, forall_const, not_true_eq_false, not_false_eq_true, true_implies, false_implies, implies_true, and_self, zero_ne_one, one_ne_zero, eq_self, reduceIte, s_X1_ways_0, b_X1_ways_0, s_X1_ways_4, b_X1_ways_4, s_X1_ways_12, b_X1_ways_12, s_X1_ways_24, b_X1_ways_24, s_X1_ways_31, b_X1_ways_31, s_X1_ways_35, b_X1_ways_35, s_X1_ways_37, b_X1_ways_37, s_X1_ways_44, b_X1_ways_44, s_X1_ways_50, b_X1_ways_50, s_X1_ways_55, b_X1_ways_55, s_X1_ways_63, b_X1_ways_63, s_X1_ways_70, b_X1_ways_70, s_X1_ways_78, b_X1_ways_78, s_X1_ways_89, b_X1_ways_89, s_X1_ways_94, b_X1_ways_94, s_X1_ways_98, b_X1_ways_98, s_X1_ways_99, b_X1_ways_99, s_X1_ways_107, b_X1_ways_107, s_X1_ways_112, b_X1_ways_112, s_X1_ways_119, b_X1_ways_119, s_X1_ways_130, b_X1_ways_130, s_X1_ways_135, b_X1_ways_135, s_X1_ways_139, b_X1_ways_139, s_X1_ways_140, b_X1_ways_140, s_X1_ways_148, b_X1_ways_148, s_X1_ways_154, b_X1_ways_154, ld_X1_100, G_X1_ways_141, sp_X1_shorten_e]
      exact ⟨by omega, fun c => by omega, fun c => ⟨by omega, by omega, w_one (K := fun _ ν' => S 112 [some (.inr (.inr 34)), some (.inr (.inr a)), some (.inr (.inr b)), some (.inr (.inr out)), some (.inl 1), some (.inl r), some (.inl (p + -1))] [] ν') (r := r + 1) hb ho hnb hs hd hgb hvb ⟨by omega, h2⟩ hi hP (fun ν' z2 hz2 hi' pers turn zz => ih 1 (p + -1) ν' (by omega) (by omega) (Or.inr rfl) hi' (fun x y c n hkey hrk => pers x y c hkey.1 (hP x y c n hkey hrk)) (fun q => absurd q (by decide)))⟩⟩
/-- through the places -/
theorem wy_70 {Rt : Option QV → QM → Prop} {S : Nat → QL → List QV → QM → Prop} (hR : q_Rule cX1_ways 7 u_X1_ways fl_X1 ld_X1 G_X1_ways q_T 4 s_X1_ways Rt S) {μ : QM} {a b out w h : Int} {r : Int} (hb : c_vn b) (ho : c_vn out) (hnb : ¬ b = out) (hs : c_sd μ) (hd : m_dim w h) (hgb : c_gp μ b w h) (hvb : ∀ u v : Int, m_in w h u v → m_vr (c_A μ b u v)) (hk : ∀ (z : Int) (ν : QM) (l6 : Option QV), (z = 0 ∨ z = 1) → w_in μ a b out w h ν → w_P w h (c_A μ a) (c_A μ b) (r + 1) (c_A ν out) → (z = 0 → ∀ x y : Int, m_in w h x y → w_fx w h (c_A μ b) (c_A ν out) x y) → S 50 [some (.inr (.inr 34)), some (.inr (.inr a)), some (.inr (.inr b)), some (.inr (.inr out)), some (.inl z), some (.inl (r + 1)), l6] [] ν) : ∀ (d : Nat) (z p : Int) (ν : QM), p + d = 181 → 15 ≤ p → (z = 0 ∨ z = 1) → w_in μ a b out w h ν → w_P w h (c_A μ a) (c_A μ b) r (c_A ν out) → (∀ (x y c : Int) (n : Nat), w_key w h (c_A μ a) (c_A μ b) x y c n → w_rk w h (c_A μ a) (c_A μ b) c n < r + 1 → c_p x y < p → c_A ν out x y = c) → (z = 0 → ∀ x y : Int, m_in w h x y → c_p x y < p → w_fx w h (c_A μ b) (c_A ν out) x y) → S 70 [some (.inr (.inr 34)), some (.inr (.inr a)), some (.inr (.inr b)), some (.inr (.inr out)), some (.inl z), some (.inl r), some (.inl p)] [] ν := by
  intro d
  have hlt : ∀ x y : Int, m_in w h x y → c_p x y < 181 := fun x y hxy => by
    show (y + 1) * 14 + x + 1 < 181
    omega
  induction d with
  | zero =>
    intro z p ν h1 h2 hz hi hP hdn hf
    obtain rfl : p = 181 := by omega
    refine hR 60 b_X1_ways_70 70 _ _ _ o_X1_ways_70 ?_
    simp only [v_opt_n, v_opt_s, v_nil, v_iconst, v_bipush, v_sipush, v_lconst0, v_lconst1, v_ldc, v_ldcw, v_ldc2, v_iload0, v_iload1, v_iload2, v_iload3, v_iload, v_lload0, v_lload1, v_lload2, v_lload3, v_lload, v_aload0, v_aload1, v_aload2, v_aload3, v_aload, v_istore0, v_istore1, v_istore2, v_istore3, v_istore, v_lstore0, v_lstore1, v_lstore2, v_lstore3, v_lstore, v_astore0, v_astore1, v_astore2, v_astore3, v_astore, v_iinc, v_iadd, v_isub, v_imul, v_iand, v_ior, v_ixor, v_ishl, v_ishr, v_iushr, v_ineg, v_idiv, v_irem, v_ladd, v_lsub, v_lmul, v_lcmp, v_i2l, v_l2i, v_i2c, v_dup, v_dup2, v_if_eq, v_if_ne, v_if_lt, v_if_ge, v_if_gt, v_if_le, v_ic_eq, v_ic_ne, v_ic_lt, v_ic_ge, v_ic_gt, v_ic_le, v_goto, v_tsw, v_lsw, v_ireturn, v_areturn, v_return, v_iaload, v_laload, v_baload, v_caload, v_aaload, v_iastore, v_lastore, v_bastore, v_castore, v_alen, v_invvi, v_invst, v_invsp, e_int, e_lng, e_ref, e_lg0, e_lg1, e_lg2, e_lg3, e_lg4, e_lg5, e_lg6, e_lg7, e_lg8, e_lg9, e_lg10, e_lg11, e_lg12, e_lg13, e_clrI, e_clrJ, e_clrP, e_clrN, e_s0, e_s1, e_s2, e_s3, e_s4, e_s5, e_s6, e_s7, e_s8, e_s9, e_s10, e_s11, e_s12, e_s13, e_t0, e_t1, e_t2, e_t3, e_t4, e_t5, e_t6, e_t7, e_t8, e_t9, e_t10, e_t11, e_t12, e_t13, e_fd, e_kk, e_k0, e_k1, e_k2, e_k3, e_k4, e_k5, e_k6, e_k7, e_k8, e_k9, e_sv0, e_sv1, e_sv2, e_sv3, e_svc, e_pf0, e_pf1, e_pf2, e_pf3, e_ar, e_aa, e_al, e_sw1, e_sw2, e_ct0, e_ct1, e_ct2, e_cat0, e_cat1, e_rk0, e_rk1, e_rk2, e_inv0, e_inv1, e_inv2, e_inv3, e_inv4, e_inv5, e_inv6, e_o0, e_o1, e_cl, e_cle, e_cg, e_cge, e_ce, e_cr1, e_cr2, e_r, e_R, e_up, Int.cast_ofNat_Int, u_app, false_and, and_false, e_b0, e_b1, e_bn, e_bl, e_bu, Int.reduceLE, Int.reduceLT, Int.reduceEq, Int.reduceNeg, Int.reduceAdd, Int.reduceSub, Int.reduceMul, Nat.reduceLeDiff, Nat.reduceLT, Nat.reduceAdd, Nat.reduceEqDiff, true_and, and_true, true_or, or_true, false_or, or_false, forall_const, not_true_eq_false, not_false_eq_true, true_implies, false_implies, implies_true, and_self, zero_ne_one, one_ne_zero, eq_self, reduceIte, s_X1_ways_0, b_X1_ways_0, s_X1_ways_4, b_X1_ways_4, s_X1_ways_12, b_X1_ways_12, s_X1_ways_24, b_X1_ways_24, s_X1_ways_31, b_X1_ways_31, s_X1_ways_35, b_X1_ways_35, s_X1_ways_37, b_X1_ways_37, s_X1_ways_44, b_X1_ways_44, s_X1_ways_50, b_X1_ways_50, s_X1_ways_55, b_X1_ways_55, s_X1_ways_63, b_X1_ways_63, s_X1_ways_70, b_X1_ways_70, s_X1_ways_78, b_X1_ways_78, s_X1_ways_89, b_X1_ways_89, s_X1_ways_94, b_X1_ways_94, s_X1_ways_98, b_X1_ways_98, s_X1_ways_99, b_X1_ways_99, s_X1_ways_107, b_X1_ways_107, s_X1_ways_112, b_X1_ways_112, s_X1_ways_119, b_X1_ways_119, s_X1_ways_130, b_X1_ways_130, s_X1_ways_135, b_X1_ways_135, s_X1_ways_139, b_X1_ways_139, s_X1_ways_140, b_X1_ways_140, s_X1_ways_148, b_X1_ways_148, s_X1_ways_154, b_X1_ways_154, ld_X1_100, G_X1_ways_141, sp_X1_shorten_e]
    exact wy_112 hR hb ho hnb hs hd hgb hvb hk 166 z 180 ν (by omega) (by omega) hz hi (fun x y c n hkey hrk => hdn x y c n hkey hrk (hlt x y (m_wk_0 n x y c hkey.2.1).2)) (fun q x y hxy => hf q x y hxy (hlt x y hxy))
  | succ d ih =>
    intro z p ν h1 h2 hz hi hP hdn hf
    rcases hz with rfl | rfl
    · refine hR 60 b_X1_ways_70 70 _ _ _ o_X1_ways_70 ?_
      simp only [v_opt_n, v_opt_s, v_nil, v_iconst, v_bipush, v_sipush, v_lconst0, v_lconst1, v_ldc, v_ldcw, v_ldc2, v_iload0, v_iload1, v_iload2, v_iload3, v_iload, v_lload0, v_lload1, v_lload2, v_lload3, v_lload, v_aload0, v_aload1, v_aload2, v_aload3, v_aload, v_istore0, v_istore1, v_istore2, v_istore3, v_istore, v_lstore0, v_lstore1, v_lstore2, v_lstore3, v_lstore, v_astore0, v_astore1, v_astore2, v_astore3, v_astore, v_iinc, v_iadd, v_isub, v_imul, v_iand, v_ior, v_ixor, v_ishl, v_ishr, v_iushr, v_ineg, v_idiv, v_irem, v_ladd, v_lsub, v_lmul, v_lcmp, v_i2l, v_l2i, v_i2c, v_dup, v_dup2, v_if_eq, v_if_ne, v_if_lt, v_if_ge, v_if_gt, v_if_le, v_ic_eq, v_ic_ne, v_ic_lt, v_ic_ge, v_ic_gt, v_ic_le, v_goto, v_tsw, v_lsw, v_ireturn, v_areturn, v_return, v_iaload, v_laload, v_baload, v_caload, v_aaload, v_iastore, v_lastore, v_bastore, v_castore, v_alen, v_invvi, v_invst, v_invsp, e_int, e_lng, e_ref, e_lg0, e_lg1, e_lg2, e_lg3, e_lg4, e_lg5, e_lg6, e_lg7, e_lg8, e_lg9, e_lg10, e_lg11, e_lg12, e_lg13, e_clrI, e_clrJ, e_clrP, e_clrN, e_s0, e_s1, e_s2, e_s3, e_s4, e_s5, e_s6, e_s7, e_s8, e_s9, e_s10, e_s11, e_s12, e_s13, e_t0, e_t1, e_t2, e_t3, e_t4, e_t5, e_t6, e_t7, e_t8, e_t9, e_t10, e_t11, e_t12, e_t13, e_fd, e_kk, e_k0, e_k1, e_k2, e_k3, e_k4, e_k5, e_k6, e_k7, e_k8, e_k9, e_sv0, e_sv1, e_sv2, e_sv3, e_svc, e_pf0, e_pf1, e_pf2, e_pf3, e_ar, e_aa, e_al, e_sw1, e_sw2, e_ct0, e_ct1, e_ct2, e_cat0, e_cat1, e_rk0, e_rk1, e_rk2, e_inv0, e_inv1, e_inv2, e_inv3, e_inv4, e_inv5, e_inv6, e_o0, e_o1, e_cl, e_cle, e_cg, e_cge, e_ce, e_cr1, e_cr2, e_r, e_R, e_up, Int.cast_ofNat_Int, u_app, false_and, and_false, e_b0, e_b1, e_bn, e_bl, e_bu, Int.reduceLE, Int.reduceLT, Int.reduceEq, Int.reduceNeg, Int.reduceAdd, Int.reduceSub, Int.reduceMul, Nat.reduceLeDiff, Nat.reduceLT, Nat.reduceAdd, Nat.reduceEqDiff, true_and, and_true, true_or, or_true, false_or, or_false, forall_const, not_true_eq_false, not_false_eq_true, true_implies, false_implies, implies_true, and_self, zero_ne_one, one_ne_zero, eq_self, reduceIte, s_X1_ways_0, b_X1_ways_0, s_X1_ways_4, b_X1_ways_4, s_X1_ways_12, b_X1_ways_12, s_X1_ways_24, b_X1_ways_24, s_X1_ways_31, b_X1_ways_31, s_X1_ways_35, b_X1_ways_35, s_X1_ways_37, b_X1_ways_37, s_X1_ways_44, b_X1_ways_44, s_X1_ways_50, b_X1_ways_50, s_X1_ways_55, b_X1_ways_55, s_X1_ways_63, b_X1_ways_63, s_X1_ways_70, b_X1_ways_70, s_X1_ways_78, b_X1_ways_78, s_X1_ways_89, b_X1_ways_89, s_X1_ways_94, b_X1_ways_94, s_X1_ways_98, b_X1_ways_98, s_X1_ways_99, b_X1_ways_99, s_X1_ways_107, b_X1_ways_107, s_X1_ways_112, b_X1_ways_112, s_X1_ways_119, b_X1_ways_119, s_X1_ways_130, b_X1_ways_130, s_X1_ways_135, b_X1_ways_135, s_X1_ways_139, b_X1_ways_139, s_X1_ways_140, b_X1_ways_140, s_X1_ways_148, b_X1_ways_148, s_X1_ways_154, b_X1_ways_154, ld_X1_100, G_X1_ways_141, sp_X1_shorten_e]
      refine ⟨by omega, fun c => by omega, fun c => ⟨by omega, by omega, w_one (K := fun z2 ν' => S 70 [some (.inr (.inr 34)), some (.inr (.inr a)), some (.inr (.inr b)), some (.inr (.inr out)), some (.inl z2), some (.inl r), some (.inl (p + 1))] [] ν') (r := r) hb ho hnb hs hd hgb hvb ⟨h2, by omega⟩ hi hP (fun ν' z2 hz2 hi' pers turn zz => ih z2 (p + 1) ν' (by omega) (by omega) hz2 hi' (fun x y c n hkey hrk => pers x y c hkey.1 (hP x y c n hkey hrk)) (fun x y c n hkey hrk hl => ?_) (fun q x y hxy hl => ?_))⟩⟩
      · by_cases c5 : c_p x y = p
        · exact turn x y c n hkey hrk c5
        · exact pers x y c hkey.1 (hdn x y c n hkey hrk (by omega))
      · obtain ⟨e1, e2⟩ := zz q
        rw [e1]
        by_cases c5 : c_p x y = p
        · exact e2 x y hxy c5
        · exact hf rfl x y hxy (by omega)
    · refine hR 60 b_X1_ways_70 70 _ _ _ o_X1_ways_70 ?_
      simp only [v_opt_n, v_opt_s, v_nil, v_iconst, v_bipush, v_sipush, v_lconst0, v_lconst1, v_ldc, v_ldcw, v_ldc2, v_iload0, v_iload1, v_iload2, v_iload3, v_iload, v_lload0, v_lload1, v_lload2, v_lload3, v_lload, v_aload0, v_aload1, v_aload2, v_aload3, v_aload, v_istore0, v_istore1, v_istore2, v_istore3, v_istore, v_lstore0, v_lstore1, v_lstore2, v_lstore3, v_lstore, v_astore0, v_astore1, v_astore2, v_astore3, v_astore, v_iinc, v_iadd, v_isub, v_imul, v_iand, v_ior, v_ixor, v_ishl, v_ishr, v_iushr, v_ineg, v_idiv, v_irem, v_ladd, v_lsub, v_lmul, v_lcmp, v_i2l, v_l2i, v_i2c, v_dup, v_dup2, v_if_eq, v_if_ne, v_if_lt, v_if_ge, v_if_gt, v_if_le, v_ic_eq, v_ic_ne, v_ic_lt, v_ic_ge, v_ic_gt, v_ic_le, v_goto, v_tsw, v_lsw, v_ireturn, v_areturn, v_return, v_iaload, v_laload, v_baload, v_caload, v_aaload, v_iastore, v_lastore, v_bastore, v_castore, v_alen, v_invvi, v_invst, v_invsp, e_int, e_lng, e_ref, e_lg0, e_lg1, e_lg2, e_lg3, e_lg4, e_lg5, e_lg6, e_lg7, e_lg8, e_lg9, e_lg10, e_lg11, e_lg12, e_lg13, e_clrI, e_clrJ, e_clrP, e_clrN, e_s0, e_s1, e_s2, e_s3, e_s4, e_s5, e_s6, e_s7, e_s8, e_s9, e_s10, e_s11, e_s12, e_s13, e_t0, e_t1, e_t2, e_t3, e_t4, e_t5, e_t6, e_t7, e_t8, e_t9, e_t10, e_t11, e_t12, e_t13, e_fd, e_kk, e_k0, e_k1, e_k2, e_k3, e_k4, e_k5, e_k6, e_k7, e_k8, e_k9, e_sv0, e_sv1, e_sv2, e_sv3, e_svc, e_pf0, e_pf1, e_pf2, e_pf3, e_ar, e_aa, e_al, e_sw1, e_sw2, e_ct0, e_ct1, e_ct2, e_cat0, e_cat1, e_rk0, e_rk1, e_rk2, e_inv0, e_inv1, e_inv2, e_inv3, e_inv4, e_inv5, e_inv6, e_o0, e_o1, e_cl, e_cle, e_cg, e_cge, e_ce, e_cr1, e_cr2, e_r, e_R, e_up, Int.cast_ofNat_Int, u_app, false_and, and_false, e_b0, e_b1, e_bn, e_bl, e_bu, Int.reduceLE, Int.reduceLT, Int.reduceEq, Int.reduceNeg, Int.reduceAdd, Int.reduceSub, Int.reduceMul, Nat.reduceLeDiff, Nat.reduceLT, Nat.reduceAdd, Nat.reduceEqDiff, true_and, and_true, true_or, or_true, false_or, or_false, forall_const, not_true_eq_false, not_false_eq_true, true_implies, false_implies, implies_true, and_self, zero_ne_one, one_ne_zero, eq_self, reduceIte, s_X1_ways_0, b_X1_ways_0, s_X1_ways_4, b_X1_ways_4, s_X1_ways_12, b_X1_ways_12, s_X1_ways_24, b_X1_ways_24, s_X1_ways_31, b_X1_ways_31, s_X1_ways_35, b_X1_ways_35, s_X1_ways_37, b_X1_ways_37, s_X1_ways_44, b_X1_ways_44, s_X1_ways_50, b_X1_ways_50, s_X1_ways_55, b_X1_ways_55, s_X1_ways_63, b_X1_ways_63, s_X1_ways_70, b_X1_ways_70, s_X1_ways_78, b_X1_ways_78, s_X1_ways_89, b_X1_ways_89, s_X1_ways_94, b_X1_ways_94, s_X1_ways_98, b_X1_ways_98, s_X1_ways_99, b_X1_ways_99, s_X1_ways_107, b_X1_ways_107, s_X1_ways_112, b_X1_ways_112, s_X1_ways_119, b_X1_ways_119, s_X1_ways_130, b_X1_ways_130, s_X1_ways_135, b_X1_ways_135, s_X1_ways_139, b_X1_ways_139, s_X1_ways_140, b_X1_ways_140, s_X1_ways_148, b_X1_ways_148, s_X1_ways_154, b_X1_ways_154, ld_X1_100, G_X1_ways_141, sp_X1_shorten_e]
      refine ⟨by omega, fun c => by omega, fun c => ⟨by omega, by omega, w_one (K := fun _ ν' => S 70 [some (.inr (.inr 34)), some (.inr (.inr a)), some (.inr (.inr b)), some (.inr (.inr out)), some (.inl 1), some (.inl r), some (.inl (p + 1))] [] ν') (r := r) hb ho hnb hs hd hgb hvb ⟨h2, by omega⟩ hi hP (fun ν' z2 hz2 hi' pers turn zz => ih 1 (p + 1) ν' (by omega) (by omega) (Or.inr rfl) hi' (fun x y c n hkey hrk => pers x y c hkey.1 (hP x y c n hkey hrk)) (fun x y c n hkey hrk hl => ?_) (fun q => absurd q (by decide)))⟩⟩
      by_cases c5 : c_p x y = p
      · exact turn x y c n hkey hrk c5
      · exact pers x y c hkey.1 (hdn x y c n hkey hrk (by omega))
/-- the rounds -/
theorem wy_50 {Rt : Option QV → QM → Prop} {S : Nat → QL → List QV → QM → Prop} (hR : q_Rule cX1_ways 7 u_X1_ways fl_X1 ld_X1 G_X1_ways q_T 4 s_X1_ways Rt S) {μ : QM} {a b out w h : Int} (hb : c_vn b) (ho : c_vn out) (hnb : ¬ b = out) (hs : c_sd μ) (hd : m_dim w h) (hgb : c_gp μ b w h) (hvb : ∀ u v : Int, m_in w h u v → m_vr (c_A μ b u v)) (hk : ∀ ν : QM, w_in μ a b out w h ν → w_al w h (c_A μ a) (c_A μ b) (c_A ν out) → Rt none ν) : ∀ (d : Nat) (r z : Int) (ν : QM) (l6 : Option QV), r + d = 196 → 0 ≤ r → (z = 0 ∨ z = 1) → w_in μ a b out w h ν → w_P w h (c_A μ a) (c_A μ b) r (c_A ν out) → (z = 0 → ∀ x y : Int, m_in w h x y → w_fx w h (c_A μ b) (c_A ν out) x y) → S 50 [some (.inr (.inr 34)), some (.inr (.inr a)), some (.inr (.inr b)), some (.inr (.inr out)), some (.inl z), some (.inl r), l6] [] ν := by
  intro d
  induction d with
  | zero =>
    intro r z ν l6 h1 h2 hz hi hP hf
    have hal := w_P_al (by omega) hP
    refine hR 60 b_X1_ways_50 50 _ _ _ o_X1_ways_50 ?_
    simp only [v_opt_n, v_opt_s, v_nil, v_iconst, v_bipush, v_sipush, v_lconst0, v_lconst1, v_ldc, v_ldcw, v_ldc2, v_iload0, v_iload1, v_iload2, v_iload3, v_iload, v_lload0, v_lload1, v_lload2, v_lload3, v_lload, v_aload0, v_aload1, v_aload2, v_aload3, v_aload, v_istore0, v_istore1, v_istore2, v_istore3, v_istore, v_lstore0, v_lstore1, v_lstore2, v_lstore3, v_lstore, v_astore0, v_astore1, v_astore2, v_astore3, v_astore, v_iinc, v_iadd, v_isub, v_imul, v_iand, v_ior, v_ixor, v_ishl, v_ishr, v_iushr, v_ineg, v_idiv, v_irem, v_ladd, v_lsub, v_lmul, v_lcmp, v_i2l, v_l2i, v_i2c, v_dup, v_dup2, v_if_eq, v_if_ne, v_if_lt, v_if_ge, v_if_gt, v_if_le, v_ic_eq, v_ic_ne, v_ic_lt, v_ic_ge, v_ic_gt, v_ic_le, v_goto, v_tsw, v_lsw, v_ireturn, v_areturn, v_return, v_iaload, v_laload, v_baload, v_caload, v_aaload, v_iastore, v_lastore, v_bastore, v_castore, v_alen, v_invvi, v_invst, v_invsp, e_int, e_lng, e_ref, e_lg0, e_lg1, e_lg2, e_lg3, e_lg4, e_lg5, e_lg6, e_lg7, e_lg8, e_lg9, e_lg10, e_lg11, e_lg12, e_lg13, e_clrI, e_clrJ, e_clrP, e_clrN, e_s0, e_s1, e_s2, e_s3, e_s4, e_s5, e_s6, e_s7, e_s8, e_s9, e_s10, e_s11, e_s12, e_s13, e_t0, e_t1, e_t2, e_t3, e_t4, e_t5, e_t6, e_t7, e_t8, e_t9, e_t10, e_t11, e_t12, e_t13, e_fd, e_kk, e_k0, e_k1, e_k2, e_k3, e_k4, e_k5, e_k6, e_k7, e_k8, e_k9, e_sv0, e_sv1, e_sv2, e_sv3, e_svc, e_pf0, e_pf1, e_pf2, e_pf3, e_ar, e_aa, e_al, e_sw1, e_sw2, e_ct0, e_ct1, e_ct2, e_cat0, e_cat1, e_rk0, e_rk1, e_rk2, e_inv0, e_inv1, e_inv2, e_inv3, e_inv4, e_inv5, e_inv6, e_o0, e_o1, e_cl, e_cle, e_cg, e_cge, e_ce, e_cr1, e_cr2, e_r, e_R, e_up, Int.cast_ofNat_Int, u_app, false_and, and_false, e_b0, e_b1, e_bn, e_bl, e_bu, Int.reduceLE, Int.reduceLT, Int.reduceEq, Int.reduceNeg, Int.reduceAdd, Int.reduceSub, Int.reduceMul, Nat.reduceLeDiff, Nat.reduceLT, Nat.reduceAdd, Nat.reduceEqDiff, true_and, and_true, true_or, or_true, false_or, or_false, forall_const, not_true_eq_false, not_false_eq_true, true_implies, false_implies, implies_true, and_self, zero_ne_one, one_ne_zero, eq_self, reduceIte, s_X1_ways_0, b_X1_ways_0, s_X1_ways_4, b_X1_ways_4, s_X1_ways_12, b_X1_ways_12, s_X1_ways_24, b_X1_ways_24, s_X1_ways_31, b_X1_ways_31, s_X1_ways_35, b_X1_ways_35, s_X1_ways_37, b_X1_ways_37, s_X1_ways_44, b_X1_ways_44, s_X1_ways_50, b_X1_ways_50, s_X1_ways_55, b_X1_ways_55, s_X1_ways_63, b_X1_ways_63, s_X1_ways_70, b_X1_ways_70, s_X1_ways_78, b_X1_ways_78, s_X1_ways_89, b_X1_ways_89, s_X1_ways_94, b_X1_ways_94, s_X1_ways_98, b_X1_ways_98, s_X1_ways_99, b_X1_ways_99, s_X1_ways_107, b_X1_ways_107, s_X1_ways_112, b_X1_ways_112, s_X1_ways_119, b_X1_ways_119, s_X1_ways_130, b_X1_ways_130, s_X1_ways_135, b_X1_ways_135, s_X1_ways_139, b_X1_ways_139, s_X1_ways_140, b_X1_ways_140, s_X1_ways_148, b_X1_ways_148, s_X1_ways_154, b_X1_ways_154, ld_X1_100, G_X1_ways_141, sp_X1_shorten_e]
    exact ⟨by omega, fun _ => hk ν hi hal, fun _ => ⟨by omega, fun _ => hk ν hi hal, fun c => by omega⟩⟩
  | succ d ih =>
    intro r z ν l6 h1 h2 hz hi hP hf
    refine hR 60 b_X1_ways_50 50 _ _ _ o_X1_ways_50 ?_
    simp only [v_opt_n, v_opt_s, v_nil, v_iconst, v_bipush, v_sipush, v_lconst0, v_lconst1, v_ldc, v_ldcw, v_ldc2, v_iload0, v_iload1, v_iload2, v_iload3, v_iload, v_lload0, v_lload1, v_lload2, v_lload3, v_lload, v_aload0, v_aload1, v_aload2, v_aload3, v_aload, v_istore0, v_istore1, v_istore2, v_istore3, v_istore, v_lstore0, v_lstore1, v_lstore2, v_lstore3, v_lstore, v_astore0, v_astore1, v_astore2, v_astore3, v_astore, v_iinc, v_iadd, v_isub, v_imul, v_iand, v_ior, v_ixor, v_ishl, v_ishr, v_iushr, v_ineg, v_idiv, v_irem, v_ladd, v_lsub, v_lmul, v_lcmp, v_i2l, v_l2i, v_i2c, v_dup, v_dup2, v_if_eq, v_if_ne, v_if_lt, v_if_ge, v_if_gt, v_if_le, v_ic_eq, v_ic_ne, v_ic_lt, v_ic_ge, v_ic_gt, v_ic_le, v_goto, v_tsw, v_lsw, v_ireturn, v_areturn, v_return, v_iaload, v_laload, v_baload, v_caload, v_aaload, v_iastore, v_lastore, v_bastore, v_castore, v_alen, v_invvi, v_invst, v_invsp, e_int, e_lng, e_ref, e_lg0, e_lg1, e_lg2, e_lg3, e_lg4, e_lg5, e_lg6, e_lg7, e_lg8, e_lg9, e_lg10, e_lg11, e_lg12, e_lg13, e_clrI, e_clrJ, e_clrP, e_clrN, e_s0, e_s1, e_s2, e_s3, e_s4, e_s5, e_s6, e_s7, e_s8, e_s9, e_s10, e_s11, e_s12, e_s13, e_t0, e_t1, e_t2, e_t3, e_t4, e_t5, e_t6, e_t7, e_t8, e_t9, e_t10, e_t11, e_t12, e_t13, e_fd, e_kk, e_k0, e_k1, e_k2, e_k3, e_k4, e_k5, e_k6, e_k7, e_k8, e_k9, e_sv0, e_sv1, e_sv2, e_sv3, e_svc, e_pf0, e_pf1, e_pf2, e_pf3, e_ar, e_aa, e_al, e_sw1, e_sw2, e_ct0, e_ct1, e_ct2, e_cat0, e_cat1, e_rk0, e_rk1, e_rk2, e_inv0, e_inv1, e_inv2, e_inv3, e_inv4, e_inv5, e_inv6, e_o0, e_o1, e_cl, e_cle, e_cg, e_cge, e_ce, e_cr1, e_cr2, e_r, e_R, e_up, Int.cast_ofNat_Int, u_app, false_and, and_false, e_b0, e_b1, e_bn, e_bl, e_bu, Int.reduceLE, Int.reduceLT, Int.reduceEq, Int.reduceNeg, Int.reduceAdd, Int.reduceSub, Int.reduceMul, Nat.reduceLeDiff, Nat.reduceLT, Nat.reduceAdd, Nat.reduceEqDiff, true_and, and_true, true_or, or_true, false_or, or_false, forall_const, not_true_eq_false, not_false_eq_true, true_implies, false_implies, implies_true, and_self, zero_ne_one, one_ne_zero, eq_self, reduceIte, s_X1_ways_0, b_X1_ways_0, s_X1_ways_4, b_X1_ways_4, s_X1_ways_12, b_X1_ways_12, s_X1_ways_24, b_X1_ways_24, s_X1_ways_31, b_X1_ways_31, s_X1_ways_35, b_X1_ways_35, s_X1_ways_37, b_X1_ways_37, s_X1_ways_44, b_X1_ways_44, s_X1_ways_50, b_X1_ways_50, s_X1_ways_55, b_X1_ways_55, s_X1_ways_63, b_X1_ways_63, s_X1_ways_70, b_X1_ways_70, s_X1_ways_78, b_X1_ways_78, s_X1_ways_89, b_X1_ways_89, s_X1_ways_94, b_X1_ways_94, s_X1_ways_98, b_X1_ways_98, s_X1_ways_99, b_X1_ways_99, s_X1_ways_107, b_X1_ways_107, s_X1_ways_112, b_X1_ways_112, s_X1_ways_119, b_X1_ways_119, s_X1_ways_130, b_X1_ways_130, s_X1_ways_135, b_X1_ways_135, s_X1_ways_139, b_X1_ways_139, s_X1_ways_140, b_X1_ways_140, s_X1_ways_148, b_X1_ways_148, s_X1_ways_154, b_X1_ways_154, ld_X1_100, G_X1_ways_141, sp_X1_shorten_e]
    refine ⟨by omega, fun c => hk ν hi (w_fix hi.2.2.1 hi.2.2.2 (hf c)), fun c => ⟨by omega, fun c1 => by omega, fun c1 => ?_⟩⟩
    have hge : ∀ x y : Int, m_in w h x y → ¬ c_p x y < 15 := fun x y hxy => by
      show ¬ (y + 1) * 14 + x + 1 < 15
      omega
    exact wy_70 hR hb ho hnb hs hd hgb hvb (fun z ν l6 a1 a2 a3 a4 => ih (r + 1) z ν l6 (by omega) (by omega) a1 a2 a3 a4) 166 0 15 ν (by omega) (by omega) (Or.inl rfl) hi hP (fun x y c n hkey hrk hl => absurd hl (hge x y (m_wk_0 n x y c hkey.2.1).2)) (fun _ x y hxy hl => absurd hl (hge x y hxy))
/-- the beginning -/
theorem wy_4 {Rt : Option QV → QM → Prop} {S : Nat → QL → List QV → QM → Prop} (hR : q_Rule cX1_ways 7 u_X1_ways fl_X1 ld_X1 G_X1_ways q_T 4 s_X1_ways Rt S) {μ : QM} {a b out w h : Int} (ha : c_vn a) (hb : c_vn b) (ho : c_vn out) (hna : ¬ a = out) (hnb : ¬ b = out) (hd : m_dim w h) (hgb : c_gp μ b w h) (hv : ∀ u v : Int, m_in w h u v → m_vr (c_A μ a u v) ∧ m_vr (c_A μ b u v)) (hk : ∀ ν : QM, (∀ c j : Int, ¬ c = out → ν c j = μ c j) → (∀ j : Int, ν out j = if 15 ≤ j ∧ j ≤ 180 then (if ¬ μ b j = -2000000000 ∧ 0 < μ a j then 0 else -2000000000) else μ out j) → S 50 [some (.inr (.inr 34)), some (.inr (.inr a)), some (.inr (.inr b)), some (.inr (.inr out)), some (.inl 1), some (.inl 0), none] [] ν) : ∀ (d : Nat) (p : Int) (ν : QM), p + d = 181 → 15 ≤ p → (∀ c j : Int, ¬ c = out → ν c j = μ c j) → (∀ j : Int, ν out j = if 15 ≤ j ∧ j < p then (if ¬ μ b j = -2000000000 ∧ 0 < μ a j then 0 else -2000000000) else μ out j) → S 4 [some (.inr (.inr 34)), some (.inr (.inr a)), some (.inr (.inr b)), some (.inr (.inr out)), some (.inl p), none, none] [] ν := by
  intro d
  have hTa := T_vn ha
  have hTb := T_vn hb
  have hTo := T_vn ho
  induction d with
  | zero =>
    intro p ν h1 h2 i1 i2
    obtain rfl : p = 181 := by omega
    refine hR 60 b_X1_ways_4 4 _ _ _ o_X1_ways_4 ?_
    simp only [v_opt_n, v_opt_s, v_nil, v_iconst, v_bipush, v_sipush, v_lconst0, v_lconst1, v_ldc, v_ldcw, v_ldc2, v_iload0, v_iload1, v_iload2, v_iload3, v_iload, v_lload0, v_lload1, v_lload2, v_lload3, v_lload, v_aload0, v_aload1, v_aload2, v_aload3, v_aload, v_istore0, v_istore1, v_istore2, v_istore3, v_istore, v_lstore0, v_lstore1, v_lstore2, v_lstore3, v_lstore, v_astore0, v_astore1, v_astore2, v_astore3, v_astore, v_iinc, v_iadd, v_isub, v_imul, v_iand, v_ior, v_ixor, v_ishl, v_ishr, v_iushr, v_ineg, v_idiv, v_irem, v_ladd, v_lsub, v_lmul, v_lcmp, v_i2l, v_l2i, v_i2c, v_dup, v_dup2, v_if_eq, v_if_ne, v_if_lt, v_if_ge, v_if_gt, v_if_le, v_ic_eq, v_ic_ne, v_ic_lt, v_ic_ge, v_ic_gt, v_ic_le, v_goto, v_tsw, v_lsw, v_ireturn, v_areturn, v_return, v_iaload, v_laload, v_baload, v_caload, v_aaload, v_iastore, v_lastore, v_bastore, v_castore, v_alen, v_invvi, v_invst, v_invsp, e_int, e_lng, e_ref, e_lg0, e_lg1, e_lg2, e_lg3, e_lg4, e_lg5, e_lg6, e_lg7, e_lg8, e_lg9, e_lg10, e_lg11, e_lg12, e_lg13, e_clrI, e_clrJ, e_clrP, e_clrN, e_s0, e_s1, e_s2, e_s3, e_s4, e_s5, e_s6, e_s7, e_s8, e_s9, e_s10, e_s11, e_s12, e_s13, e_t0, e_t1, e_t2, e_t3, e_t4, e_t5, e_t6, e_t7, e_t8, e_t9, e_t10, e_t11, e_t12, e_t13, e_fd, e_kk, e_k0, e_k1, e_k2, e_k3, e_k4, e_k5, e_k6, e_k7, e_k8, e_k9, e_sv0, e_sv1, e_sv2, e_sv3, e_svc, e_pf0, e_pf1, e_pf2, e_pf3, e_ar, e_aa, e_al, e_sw1, e_sw2, e_ct0, e_ct1, e_ct2, e_cat0, e_cat1, e_rk0, e_rk1, e_rk2, e_inv0, e_inv1, e_inv2, e_inv3, e_inv4, e_inv5, e_inv6, e_o0, e_o1, e_cl, e_cle, e_cg, e_cge, e_ce, e_cr1, e_cr2, e_r, e_R, e_up, Int.cast_ofNat_Int, u_app, false_and, and_false, e_b0, e_b1, e_bn, e_bl, e_bu, Int.reduceLE, Int.reduceLT, Int.reduceEq, Int.reduceNeg, Int.reduceAdd, Int.reduceSub, Int.reduceMul, Nat.reduceLeDiff, Nat.reduceLT, Nat.reduceAdd, Nat.reduceEqDiff, true_and, and_true, true_or, or_true, false_or, or_false, forall_const, not_true_eq_false, not_false_eq_true, true_implies, false_implies, implies_true, and_self, zero_ne_one, one_ne_zero, eq_self, reduceIte, s_X1_ways_0, b_X1_ways_0, s_X1_ways_4, b_X1_ways_4, s_X1_ways_12, b_X1_ways_12, s_X1_ways_24, b_X1_ways_24, s_X1_ways_31, b_X1_ways_31, s_X1_ways_35, b_X1_ways_35, s_X1_ways_37, b_X1_ways_37, s_X1_ways_44, b_X1_ways_44, s_X1_ways_50, b_X1_ways_50, s_X1_ways_55, b_X1_ways_55, s_X1_ways_63, b_X1_ways_63, s_X1_ways_70, b_X1_ways_70, s_X1_ways_78, b_X1_ways_78, s_X1_ways_89, b_X1_ways_89, s_X1_ways_94, b_X1_ways_94, s_X1_ways_98, b_X1_ways_98, s_X1_ways_99, b_X1_ways_99, s_X1_ways_107, b_X1_ways_107, s_X1_ways_112, b_X1_ways_112, s_X1_ways_119, b_X1_ways_119, s_X1_ways_130, b_X1_ways_130, s_X1_ways_135, b_X1_ways_135, s_X1_ways_139, b_X1_ways_139, s_X1_ways_140, b_X1_ways_140, s_X1_ways_148, b_X1_ways_148, s_X1_ways_154, b_X1_ways_154, ld_X1_100, G_X1_ways_141, sp_X1_shorten_e]
    refine hk ν i1 (fun j => ?_)
    rw [i2 j]
    by_cases c : 15 ≤ j ∧ j < 181
    · rw [if_pos c, if_pos (show 15 ≤ j ∧ j ≤ 180 by omega)]
    · rw [if_neg c, if_neg (show ¬ (15 ≤ j ∧ j ≤ 180) by omega)]
  | succ d ih =>
    intro p ν h1 h2 i1 i2
    have ea : ν a p = μ a p := i1 a p hna
    have eb : ν b p = μ b p := i1 b p hnb
    have st : ∀ z : Int, z = (if ¬ μ b p = -2000000000 ∧ 0 < μ a p then 0 else -2000000000) → S 4 [some (.inr (.inr 34)), some (.inr (.inr a)), some (.inr (.inr b)), some (.inr (.inr out)), some (.inl (p + 1)), none, none] [] (q_up ν out p z) := fun z hz => by
      refine ih (p + 1) _ (by omega) (by omega) (fun c j nc => ?_) (fun j => ?_)
      · rw [u_app, if_neg (fun q => nc q.1)]
        exact i1 c j nc
      · rw [u_app]
        by_cases c : j = p
        · rw [if_pos ⟨rfl, c⟩, if_pos (show 15 ≤ j ∧ j < p + 1 by omega), hz, c]
        · rw [if_neg (fun q => c q.2), i2 j]
          by_cases c2 : 15 ≤ j ∧ j < p
          · rw [if_pos c2, if_pos (show 15 ≤ j ∧ j < p + 1 by omega)]
          · rw [if_neg c2, if_neg (show ¬ (15 ≤ j ∧ j < p + 1) by omega)]
    obtain ⟨x0, y0, b1, b2, b3, b4, ep⟩ := c_p_ex (p := p) (by omega)
    have hvb : m_vr (μ b p) := by
      by_cases c : m_in w h x0 y0
      · rw [ep]
        exact (hv x0 y0 c).2
      · rw [ep, hgb x0 y0 b1 b2 b3 b4 c]
        exact Or.inl rfl
    have hva : ¬ μ b p = -2000000000 → m_vr (μ a p) := fun q => by
      have hin : m_in w h x0 y0 := Classical.byContradiction fun z => q (by rw [ep]; exact hgb x0 y0 b1 b2 b3 b4 z)
      rw [ep]
      exact (hv x0 y0 hin).1
    refine hR 60 b_X1_ways_4 4 _ _ _ o_X1_ways_4 ?_
    simp only [v_opt_n, v_opt_s, v_nil, v_iconst, v_bipush, v_sipush, v_lconst0, v_lconst1, v_ldc, v_ldcw, v_ldc2, v_iload0, v_iload1, v_iload2, v_iload3, v_iload, v_lload0, v_lload1, v_lload2, v_lload3, v_lload, v_aload0, v_aload1, v_aload2, v_aload3, v_aload, v_istore0, v_istore1, v_istore2, v_istore3, v_istore, v_lstore0, v_lstore1, v_lstore2, v_lstore3, v_lstore, v_astore0, v_astore1, v_astore2, v_astore3, v_astore, v_iinc, v_iadd, v_isub, v_imul, v_iand, v_ior, v_ixor, v_ishl, v_ishr, v_iushr, v_ineg, v_idiv, v_irem, v_ladd, v_lsub, v_lmul, v_lcmp, v_i2l, v_l2i, v_i2c, v_dup, v_dup2, v_if_eq, v_if_ne, v_if_lt, v_if_ge, v_if_gt, v_if_le, v_ic_eq, v_ic_ne, v_ic_lt, v_ic_ge, v_ic_gt, v_ic_le, v_goto, v_tsw, v_lsw, v_ireturn, v_areturn, v_return, v_iaload, v_laload, v_baload, v_caload, v_aaload, v_iastore, v_lastore, v_bastore, v_castore, v_alen, v_invvi, v_invst, v_invsp, e_int, e_lng, e_ref, e_lg0, e_lg1, e_lg2, e_lg3, e_lg4, e_lg5, e_lg6, e_lg7, e_lg8, e_lg9, e_lg10, e_lg11, e_lg12, e_lg13, e_clrI, e_clrJ, e_clrP, e_clrN, e_s0, e_s1, e_s2, e_s3, e_s4, e_s5, e_s6, e_s7, e_s8, e_s9, e_s10, e_s11, e_s12, e_s13, e_t0, e_t1, e_t2, e_t3, e_t4, e_t5, e_t6, e_t7, e_t8, e_t9, e_t10, e_t11, e_t12, e_t13, e_fd, e_kk, e_k0, e_k1, e_k2, e_k3, e_k4, e_k5, e_k6, e_k7, e_k8, e_k9, e_sv0, e_sv1, e_sv2, e_sv3, e_svc, e_pf0, e_pf1, e_pf2, e_pf3, e_ar, e_aa, e_al, e_sw1, e_sw2, e_ct0, e_ct1, e_ct2, e_cat0, e_cat1, e_rk0, e_rk1, e_rk2, e_inv0, e_inv1, e_inv2, e_inv3, e_inv4, e_inv5, e_inv6, e_o0, e_o1, e_cl, e_cle, e_cg, e_cge, e_ce, e_cr1, e_cr2, e_r, e_R, e_up, Int.cast_ofNat_Int, u_app, false_and, and_false, e_b0, e_b1, e_bn, e_bl, e_bu, Int.reduceLE, Int.reduceLT, Int.reduceEq, Int.reduceNeg, Int.reduceAdd, Int.reduceSub, Int.reduceMul, Nat.reduceLeDiff, Nat.reduceLT, Nat.reduceAdd, Nat.reduceEqDiff, true_and, and_true, true_or, or_true, false_or, or_false, forall_const, not_true_eq_false, not_false_eq_true, true_implies, false_implies, implies_true, and_self, zero_ne_one, one_ne_zero, eq_self, reduceIte, s_X1_ways_0, b_X1_ways_0, s_X1_ways_4, b_X1_ways_4, s_X1_ways_12, b_X1_ways_12, s_X1_ways_24, b_X1_ways_24, s_X1_ways_31, b_X1_ways_31, s_X1_ways_35, b_X1_ways_35, s_X1_ways_37, b_X1_ways_37, s_X1_ways_44, b_X1_ways_44, s_X1_ways_50, b_X1_ways_50, s_X1_ways_55, b_X1_ways_55, s_X1_ways_63, b_X1_ways_63, s_X1_ways_70, b_X1_ways_70, s_X1_ways_78, b_X1_ways_78, s_X1_ways_89, b_X1_ways_89, s_X1_ways_94, b_X1_ways_94, s_X1_ways_98, b_X1_ways_98, s_X1_ways_99, b_X1_ways_99, s_X1_ways_107, b_X1_ways_107, s_X1_ways_112, b_X1_ways_112, s_X1_ways_119, b_X1_ways_119, s_X1_ways_130, b_X1_ways_130, s_X1_ways_135, b_X1_ways_135, s_X1_ways_139, b_X1_ways_139, s_X1_ways_140, b_X1_ways_140, s_X1_ways_148, b_X1_ways_148, s_X1_ways_154, b_X1_ways_154, ld_X1_100, G_X1_ways_141, sp_X1_shorten_e, hTa, hTb, hTo, ea, eb]
    refine ⟨by omega, fun c => by omega, fun c => ⟨by omega, by omega, by omega, by omega, by omega, fun c1 => ⟨by omega, by omega, st _ (by rw [if_neg (fun q => q.1 c1)])⟩, fun c1 => ?_⟩⟩
    have := hva c1
    exact ⟨by omega, by omega, by omega, by omega, fun c2 => ⟨by omega, by omega, st _ (by rw [if_neg (fun q => by omega)])⟩, fun c2 => ⟨by omega, by omega, st _ (by rw [if_pos ⟨c1, by omega⟩])⟩⟩
set_option maxRecDepth 100000 in
set_option maxHeartbeats 4000000 in
theorem B_X1_ways : q_Body cX1_ways 7 u_X1_ways fl_X1 ld_X1 G_X1_ways q_T 4 s_X1_ways sp_X1_ways := by
  intro S Rt hR ra μ h
  obtain ⟨this, a, b, out, rfl, h⟩ := sp_X1_ways_i h
  refine ⟨by simp [q_sl, q_ct], ?_⟩
  show S 0 [some (.inr (.inr this)), some (.inr (.inr a)), some (.inr (.inr b)), some (.inr (.inr out)), none, none, none] [] μ
  obtain ⟨rfl, ha, hb, ho, hna, hnb, hs, w, h9, hd, hgb, hgo, hv, hk⟩ := h
  refine hR 40 [] 0 _ _ _ rfl ?_
  simp only [v_opt_n, v_opt_s, v_nil, v_iconst, v_bipush, v_sipush, v_lconst0, v_lconst1, v_ldc, v_ldcw, v_ldc2, v_iload0, v_iload1, v_iload2, v_iload3, v_iload, v_lload0, v_lload1, v_lload2, v_lload3, v_lload, v_aload0, v_aload1, v_aload2, v_aload3, v_aload, v_istore0, v_istore1, v_istore2, v_istore3, v_istore, v_lstore0, v_lstore1, v_lstore2, v_lstore3, v_lstore, v_astore0, v_astore1, v_astore2, v_astore3, v_astore, v_iinc, v_iadd, v_isub, v_imul, v_iand, v_ior, v_ixor, v_ishl, v_ishr, v_iushr, v_ineg, v_idiv, v_irem, v_ladd, v_lsub, v_lmul, v_lcmp, v_i2l, v_l2i, v_i2c, v_dup, v_dup2, v_if_eq, v_if_ne, v_if_lt, v_if_ge, v_if_gt, v_if_le, v_ic_eq, v_ic_ne, v_ic_lt, v_ic_ge, v_ic_gt, v_ic_le, v_goto, v_tsw, v_lsw, v_ireturn, v_areturn, v_return, v_iaload, v_laload, v_baload, v_caload, v_aaload, v_iastore, v_lastore, v_bastore, v_castore, v_alen, v_invvi, v_invst, v_invsp, e_int, e_lng, e_ref, e_lg0, e_lg1, e_lg2, e_lg3, e_lg4, e_lg5, e_lg6, e_lg7, e_lg8, e_lg9, e_lg10, e_lg11, e_lg12, e_lg13, e_clrI, e_clrJ, e_clrP, e_clrN, e_s0, e_s1, e_s2, e_s3, e_s4, e_s5, e_s6, e_s7, e_s8, e_s9, e_s10, e_s11, e_s12, e_s13, e_t0, e_t1, e_t2, e_t3, e_t4, e_t5, e_t6, e_t7, e_t8, e_t9, e_t10, e_t11, e_t12, e_t13, e_fd, e_kk, e_k0, e_k1, e_k2, e_k3, e_k4, e_k5, e_k6, e_k7, e_k8, e_k9, e_sv0, e_sv1, e_sv2, e_sv3, e_svc, e_pf0, e_pf1, e_pf2, e_pf3, e_ar, e_aa, e_al, e_sw1, e_sw2, e_ct0, e_ct1, e_ct2, e_cat0, e_cat1, e_rk0, e_rk1, e_rk2, e_inv0, e_inv1, e_inv2, e_inv3, e_inv4, e_inv5, e_inv6, e_o0, e_o1, e_cl, e_cle, e_cg, e_cge, e_ce, e_cr1, e_cr2, e_r, e_R, e_up, Int.cast_ofNat_Int, u_app, false_and, and_false, e_b0, e_b1, e_bn, e_bl, e_bu, Int.reduceLE, Int.reduceLT, Int.reduceEq, Int.reduceNeg, Int.reduceAdd, Int.reduceSub, Int.reduceMul, Nat.reduceLeDiff, Nat.reduceLT, Nat.reduceAdd, Nat.reduceEqDiff, true_and, and_true, true_or, or_true, false_or, or_false, forall_const, not_true_eq_false, not_false_eq_true, true_implies, false_implies, implies_true, and_self, zero_ne_one, one_ne_zero, eq_self, reduceIte, s_X1_ways_0, b_X1_ways_0, s_X1_ways_4, b_X1_ways_4, s_X1_ways_12, b_X1_ways_12, s_X1_ways_24, b_X1_ways_24, s_X1_ways_31, b_X1_ways_31, s_X1_ways_35, b_X1_ways_35, s_X1_ways_37, b_X1_ways_37, s_X1_ways_44, b_X1_ways_44, s_X1_ways_50, b_X1_ways_50, s_X1_ways_55, b_X1_ways_55, s_X1_ways_63, b_X1_ways_63, s_X1_ways_70, b_X1_ways_70, s_X1_ways_78, b_X1_ways_78, s_X1_ways_89, b_X1_ways_89, s_X1_ways_94, b_X1_ways_94, s_X1_ways_98, b_X1_ways_98, s_X1_ways_99, b_X1_ways_99, s_X1_ways_107, b_X1_ways_107, s_X1_ways_112, b_X1_ways_112, s_X1_ways_119, b_X1_ways_119, s_X1_ways_130, b_X1_ways_130, s_X1_ways_135, b_X1_ways_135, s_X1_ways_139, b_X1_ways_139, s_X1_ways_140, b_X1_ways_140, s_X1_ways_148, b_X1_ways_148, s_X1_ways_154, b_X1_ways_154, ld_X1_100, G_X1_ways_141, sp_X1_shorten_e]
  refine wy_4 hR ha hb ho hna hnb hd hgb hv (fun ν f g => ?_) 166 15 μ (by omega) (by omega) (fun _ _ _ => rfl) (fun j => by rw [if_neg (by omega)])
  have hin : w_in μ a b out w h9 ν := by
    have hcell : ∀ x y : Int, m_in w h9 x y → c_A ν out x y = if ¬ c_A μ b x y = -2000000000 ∧ 0 < c_A μ a x y then 0 else -2000000000 := fun x y hxy => by
      show ν out (c_p x y) = _
      rw [g, if_pos (show 15 ≤ (y + 1) * 14 + x + 1 ∧ (y + 1) * 14 + x + 1 ≤ 180 by omega)]
    refine ⟨f, fun u v u0 u1 v0 v1 hn => ?_, fun x y hxy => ?_, fun x y hxy hsr => ?_⟩
    · rw [g]
      by_cases c : 15 ≤ c_p u v ∧ c_p u v ≤ 180
      · rw [if_pos c, if_neg (fun q => q.1 (hgb u v u0 u1 v0 v1 hn))]
      · rw [if_neg c]
        exact hgo u v u0 u1 v0 v1 hn
    · rw [hcell x y hxy]
      by_cases c : ¬ c_A μ b x y = -2000000000 ∧ 0 < c_A μ a x y
      · rw [if_pos c]
        exact Or.inr ⟨by omega, by omega, 0, hxy, ⟨c.1, by have := c.2; omega, c.2⟩, rfl⟩
      · rw [if_neg c]
        exact Or.inl rfl
    · rw [hcell x y hxy, if_pos ⟨hsr.1, hsr.2.2⟩]
  refine wy_50 hR hb ho hnb hs hd hgb (fun u v q => (hv u v q).2) (fun ν2 hi hal => hk ν2 hi.1 hi.2.1 (fun x y hxy => w_way hi.2.2.1 hal hxy)) 196 0 1 ν none (by omega) (by omega) (Or.inr rfl) hin (fun x y c n hkey hrk => ?_) (fun q => absurd q (by decide))
  have := w_rk_b w h9 (c_A μ a) (c_A μ b) c n
  omega
set_option maxRecDepth 100000 in
theorem C_X1_ways {l : Launch} {ad : Int → Nat} {D : va_G} {cy : Nat → ClassId} {Z : State → Prop} (hZ : q_Zg ad Z) : q_Ct l q_T q_N ad D cy Z yX1_ways cX1_ways 7 none rm_X1_ways sp_X1_ways := by
  obtain ⟨hf, hg, hld⟩ := q_chkS k_X1_ways
  refine q_met (rk := 4) q_wokT (by decide) rfl hf hg hld rfl (q_skS L_X1_ways o_X1_ways) ?_ ?_ ?_ ?_ B_X1_ways
  · intro i hi; exact absurd hi List.not_mem_nil
  · intro i hi
    have hi : i = 141 := by simpa [u_X1_ways] using hi
    rcases hi with rfl
    · exact q_crV hZ.1 (C_X1_shorten hZ) rv_X1_shorten cm_X1_shorten (by decide +kernel) (by decide +kernel) (by decide +kernel) (by decide +kernel) (by decide +kernel) ⟨rfl, rfl⟩ (by decide)
  · intro i hi; exact absurd hi List.not_mem_nil
  · intro i hi; exact absurd hi List.not_mem_nil
theorem rv_X1_ways : q_rcv q_T yX1_ways.cls sp_X1_ways := by
  intro ra μ K h
  obtain ⟨this, a, b, out, rfl, h⟩ := sp_X1_ways_i h
  obtain rfl := h.1
  exact ⟨[.inr (.inr out), .inr (.inr b), .inr (.inr a)], 34, 1, _, _, rfl, T_34, rfl, rfl⟩
theorem cm_X1_ways : Cond.code yX1_ways cX1_ways 7 none ∈ q_tb := by decide +kernel

