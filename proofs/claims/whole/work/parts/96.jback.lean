/-! class and reference, call by call: back -/
theorem m_sm_add {g : Int → Int} (a : Nat) (u : Int) : ∀ b : Nat, m_sm g (a + b) u = m_sm g a u + m_sm g b (u + a)
  | 0 => by
    show m_sm g a u = m_sm g a u + 0
    omega
  | b + 1 => by
    rw [show a + (b + 1) = (a + b) + 1 by omega, m_sm_s, m_sm_s, m_sm_add a u b, show u + ((a + b : Nat) : Int) = u + (a : Int) + (b : Int) by omega]
    omega
section JB
variable {μ : QM} {k : Int} {w h : Int}
/-- a row of a sheet -/
theorem bn_row {s y : Nat} (hs : s < 4) (hy : y < 12) (hm : ∀ s x y : Int, 0 ≤ s → s < 4 → 0 ≤ x → x < 12 → 0 ≤ y → y < 12 → c_df1 μ k s (c_p x y) = if μ 86 (144 * s + 12 * y + x) = μ 87 (576 * k + (144 * s + 12 * y + x)) then 0 else 1) : ∀ u : Nat, u ≤ 12 → m_dfn (μ 86) (fun i => μ 87 (576 * k + i)) (144 * s + 12 * y + u) = m_dfn (μ 86) (fun i => μ 87 (576 * k + i)) (144 * s + 12 * y) + m_sm (c_df1 μ k s) u (15 + 14 * y)
  | 0, _ => by
    show _ = _ + 0
    rw [show 144 * s + 12 * y + 0 = 144 * s + 12 * y by omega]
    omega
  | u + 1, hu => by
    rw [show 144 * s + 12 * y + (u + 1) = (144 * s + 12 * y + u) + 1 by omega, m_dfn_s, bn_row hs hy hm u (by omega), m_sm_s]
    have e := hm s u y (by omega) (by omega) (by omega) (by omega) (by omega) (by omega)
    have ep : c_p (u : Int) (y : Int) = 15 + 14 * (y : Int) + (u : Int) := by
      show ((y : Int) + 1) * 14 + u + 1 = _
      omega
    rw [ep] at e
    rw [e, show ((144 * s + 12 * y + u : Nat) : Int) = 144 * (s : Int) + 12 * (y : Int) + (u : Int) by omega]
    omega
theorem bn_rows {s : Nat} (hs : s < 4) (hm : ∀ s x y : Int, 0 ≤ s → s < 4 → 0 ≤ x → x < 12 → 0 ≤ y → y < 12 → c_df1 μ k s (c_p x y) = if μ 86 (144 * s + 12 * y + x) = μ 87 (576 * k + (144 * s + 12 * y + x)) then 0 else 1) (hg : ∀ s u v : Int, 0 ≤ s → s < 4 → -1 ≤ u → u ≤ 12 → -1 ≤ v → v ≤ 12 → u = 12 ∨ u = -1 → c_df1 μ k s (c_p u v) = 0) : ∀ y : Nat, y ≤ 11 → m_dfn (μ 86) (fun i => μ 87 (576 * k + i)) (144 * s + 12 * y) = m_dfn (μ 86) (fun i => μ 87 (576 * k + i)) (144 * s) + m_sm (c_df1 μ k s) (14 * y) 15
  | 0, _ => by
    show _ = _ + 0
    rw [show 144 * s + 12 * 0 = 144 * s by omega]
    omega
  | y + 1, hy => by
    have r := bn_row hs (show y < 12 by omega) hm 12 (by omega)
    rw [show 144 * s + 12 * (y + 1) = 144 * s + 12 * y + 12 by omega, r, bn_rows hs hm hg y (by omega), show 14 * (y + 1) = 14 * y + 14 by omega, m_sm_add (14 * y) 15 14, show 15 + ((14 * y : Nat) : Int) = 15 + 14 * (y : Int) by omega]
    have e14 : m_sm (c_df1 μ k s) 14 (15 + 14 * (y : Int)) = m_sm (c_df1 μ k s) 12 (15 + 14 * (y : Int)) + c_df1 μ k s (15 + 14 * (y : Int) + ((12 : Nat) : Int)) + c_df1 μ k s (15 + 14 * (y : Int) + ((12 + 1 : Nat) : Int)) := by
      rw [m_sm_s 13, m_sm_s 12]
    have g1 := hg s 12 y (by omega) (by omega) (by omega) (by omega) (by omega) (by omega) (Or.inl rfl)
    have g2 := hg s (-1) (y + 1) (by omega) (by omega) (by omega) (by omega) (by omega) (by omega) (Or.inr rfl)
    have p1 : c_p 12 (y : Int) = 15 + 14 * (y : Int) + ((12 : Nat) : Int) := by
      show ((y : Int) + 1) * 14 + 12 + 1 = _
      omega
    have p2 : c_p (-1) ((y : Int) + 1) = 15 + 14 * (y : Int) + ((12 + 1 : Nat) : Int) := by
      show ((y : Int) + 1 + 1) * 14 + -1 + 1 = _
      omega
    rw [p1] at g1
    rw [p2] at g2
    rw [e14, g1, g2]
    omega
theorem bn_sheets (hm : ∀ s x y : Int, 0 ≤ s → s < 4 → 0 ≤ x → x < 12 → 0 ≤ y → y < 12 → c_df1 μ k s (c_p x y) = if μ 86 (144 * s + 12 * y + x) = μ 87 (576 * k + (144 * s + 12 * y + x)) then 0 else 1) (hg : ∀ s u v : Int, 0 ≤ s → s < 4 → -1 ≤ u → u ≤ 12 → -1 ≤ v → v ≤ 12 → u = 12 ∨ u = -1 → c_df1 μ k s (c_p u v) = 0) : ∀ s : Nat, s ≤ 4 → c_bks μ k s = m_dfn (μ 86) (fun i => μ 87 (576 * k + i)) (144 * s)
  | 0, _ => rfl
  | s + 1, hs => by
    show c_bks μ k s + m_sm (c_df1 μ k (s : Int)) 166 15 = _
    have r := bn_row (show s < 4 by omega) (show 11 < 12 by omega) hm 12 (by omega)
    rw [bn_sheets hm hg s (by omega), show 144 * (s + 1) = 144 * s + 12 * 11 + 12 by omega, r, bn_rows (show s < 4 by omega) hm hg 11 (by omega), show 166 = 14 * 11 + 12 by rfl, m_sm_add]
    rw [show (15 : Int) + ((14 * 11 : Nat) : Int) = 15 + 14 * ((11 : Nat) : Int) by omega]
    omega
end JB
theorem bk_J {P Q w h n k : Int} {μ ν1 ν : QM} (hj : J9 P Q w h n μ) (hk : 0 ≤ k ∧ k < 3) (hi : j_im μ w h k) (hb : bk_in μ P w h n k 4 ν1) (hr : m_bkr (q_up ν1 0 8 0) k 576 ν) (e85 : ν 85 1 = 0) : J9 P Q w h n ν := by
  have hfrom := fun (b t s : Int) (b1 : b < n) => J9_from hj (b := b) (t := t) (s := s) b1
  obtain ⟨k1, ⟨⟨a1, a2, a3, a4⟩, ⟨a5, a6, a7, a8⟩, ⟨a9, a10⟩, -, a13, a14, a15⟩, ⟨s1, s2, s3, s4, s5⟩, k4, k5, ⟨k6, k7⟩⟩ := hj
  have hP := k1.1.1
  have hn := k1.1.2.2.2.2.2.2.2.1
  have hd := k1.1.2.2.1
  obtain ⟨f1, f4, hok, hbt, h22⟩ := hb
  obtain ⟨r1, r2, r3⟩ := hr
  obtain ⟨m1, m2, m3⟩ := hi
  have u0 : ∀ a j : Int, ¬ (a = 0 ∧ j = 8) → q_up ν1 0 8 0 a j = ν1 a j := fun a j q => by rw [u_app, if_neg q]
  have fr : ∀ a j : Int, 85 ≤ a → q_up ν1 0 8 0 a j = μ a j := fun a j q => by rw [u0 a j (by omega), f1 a j (by omega) (by omega) (by omega)]
  have g : ∀ a j : Int, ¬ a = 21 → ¬ a = 22 → ¬ (4 ≤ a ∧ a < 8) → ¬ (a = 0 ∧ j = 8) → ¬ (a = 85 ∧ (j = 0 ∨ j = 1)) → ¬ a = 86 → ¬ a = 94 → ¬ a = 95 → ν a j = μ a j := fun a j n1 n2 n3 n4 n5 n6 n7 n8 => by rw [r1 a j n6 n7 n8 n5, u0 a j n4, f1 a j n1 n2 (by omega)]
  have g1 : ∀ a j : Int, ¬ (a = 0 ∧ j = 8) → a < 85 → ν a j = ν1 a j := fun a j n1 n2 => by rw [r1 a j (by omega) (by omega) (by omega) (by omega), u0 a j n1]
  have g4 : ∀ s j : Int, 0 ≤ s → s < 4 → ν (4 + s) j = if 15 ≤ j ∧ j < 181 then μ (9 + k) (196 * s + j) else μ (4 + s) j := fun s j q0 q1 => by
    rw [g1 _ _ (by omega) (by omega)]
    exact f4 s j q0 q1
  have g86 : ∀ j : Int, ν 86 j = if 0 ≤ j ∧ j < 576 then μ 87 (576 * k + j) else μ 86 j := fun j => by
    have := r2 j
    rw [fr 86 _ (by omega), fr 87 _ (by omega)] at this
    exact this
  refine ⟨c_ok_cg (fun a j q => g1 a j (by omega) (by omega)) hok, ⟨⟨?_, ?_, a3, a4⟩, ⟨?_, ?_, ?_, ?_⟩, ⟨?_, ?_⟩, ⟨?_, by rw [e85]; decide⟩, ?_, fun j j0 j1 => ?_, fun j q => ?_⟩, ⟨fun s' x' y' b0 b1 b2 b3 b4 b5 => ?_, fun s' u v b0 b1 b2 b3 b4 b5 b6 => ?_, fun j => ⟨?_, ?_⟩, fun j => ?_, fun k' b0 b1 => ?_⟩, j_t_cg (fun a j q => g a j (by omega) (by omega) (by omega) (by omega) (by omega) (by omega) (by omega) (by omega)) k4, j_p_jk hP a3 hn.2 (fun a j q => g a j (by omega) (by omega) (by omega) (by omega) (by omega) (by omega) (by omega) (by omega)) k5, ⟨fun b t b0 b1 t0 t1 => ?_, fun j => ?_⟩⟩
  · rw [g 0 5 (by decide) (by decide) (by decide) (by decide) (by decide) (by decide) (by decide) (by decide)]; exact a1
  · rw [g 0 6 (by decide) (by decide) (by decide) (by decide) (by decide) (by decide) (by decide) (by decide)]; exact a2
  · rw [g P 2 (by omega) (by omega) (by omega) (by omega) (by omega) (by omega) (by omega) (by omega)]; exact a5
  · rw [g 85 7 (by decide) (by decide) (by decide) (by decide) (by decide) (by decide) (by decide) (by decide)]; exact a6
  · rw [g 85 2 (by decide) (by decide) (by decide) (by decide) (by decide) (by decide) (by decide) (by decide)]; exact a7
  · rw [g 85 3 (by decide) (by decide) (by decide) (by decide) (by decide) (by decide) (by decide) (by decide)]; exact a8
  · rw [g 0 7 (by decide) (by decide) (by decide) (by decide) (by decide) (by decide) (by decide) (by decide), g 85 36 (by decide) (by decide) (by decide) (by decide) (by decide) (by decide) (by decide) (by decide)]; exact a9
  · rw [g 85 36 (by decide) (by decide) (by decide) (by decide) (by decide) (by decide) (by decide) (by decide)]; exact a10
  · rw [e85, r1 0 8 (by decide) (by decide) (by decide) (by decide), u_app, if_pos ⟨rfl, rfl⟩]
  · rw [g 20 6 (by decide) (by decide) (by decide) (by decide) (by decide) (by decide) (by decide) (by decide), g 85 14 (by decide) (by decide) (by decide) (by decide) (by decide) (by decide) (by decide) (by decide)]; exact a13
  · rw [g1 22 j (by omega) (by omega)]; exact h22 j j0 j1
  · rw [g 104 j (by omega) (by omega) (by omega) (by omega) (by omega) (by omega) (by omega) (by omega)]; exact a15 j q
  · have ep : c_p x' y' = (y' + 1) * 14 + x' + 1 := rfl
    rw [g4 s' _ b0 b1, g86, if_pos (by omega), if_pos (by omega)]
    exact m1 s' x' y' b0 b1 b2 b3 b4 b5
  · rw [g4 s' _ b0 b1]
    split
    · exact m2 s' u v b0 b1 b2 b3 b4 b5 b6
    · exact s2 s' u v b0 b1 b2 b3 b4 b5 b6
  · rw [g86]
    split
    · exact (s3 _).2
    · exact (s3 j).1
  · rw [g 87 j (by omega) (by omega) (by omega) (by omega) (by omega) (by omega) (by omega) (by omega)]; exact (s3 j).2
  · rw [g 88 j (by omega) (by omega) (by omega) (by omega) (by omega) (by omega) (by omega) (by omega)]; exact s4 j
  · have ei : ∀ j : Int, ν (9 + k') j = μ (9 + k') j := fun j => g _ j (by omega) (by omega) (by omega) (by omega) (by omega) (by omega) (by omega) (by omega)
    rw [g 12 k' (by omega) (by omega) (by omega) (by omega) (by omega) (by omega) (by omega) (by omega), g 88 k' (by omega) (by omega) (by omega) (by omega) (by omega) (by omega) (by omega) (by omega)]
    refine ⟨(s5 k' b0 b1).1, fun q => ?_⟩
    obtain ⟨m1, m2, m3⟩ := (s5 k' b0 b1).2 q
    refine ⟨fun s x y c0 c1 c2 c3 c4 c5 => ?_, fun s u v c0 c1 c2 c3 c4 c5 c6 => ?_, fun s u v c0 c1 c2 => ?_⟩
    · rw [ei, g 87 _ (by omega) (by omega) (by omega) (by omega) (by omega) (by omega) (by omega) (by omega)]; exact m1 s x y c0 c1 c2 c3 c4 c5
    · rw [ei]; exact m2 s u v c0 c1 c2 c3 c4 c5 c6
    · rw [ei]; exact m3 s u v c0 c1 c2
  · have e9 := k6 b t b0 b1 t0 t1
    have hb9 := hbt b t.toNat b0 b1
    rw [show ((t.toNat : Nat) : Int) = t by omega] at hb9
    rw [g1 21 b (by omega) (by omega)]
    obtain ⟨q1, q2⟩ := r3 (9 * b + t)
    rw [fr 85 7 (by omega), a6, fr 94 _ (by omega)] at q1 q2
    by_cases c : b < n
    · obtain ⟨q3, q4⟩ := q2 (by omega)
      have key : ν 94 (9 * b + t) = 1 ↔ q_bit (ν1 21 b) t.toNat = true := by
        rw [q4, hb9, e9]
        refine and_congr ⟨fun z => Classical.byContradiction fun z2 => by rw [q_bf z2] at z; exact absurd z (by decide), fun z => q_bt z⟩ ⟨fun z s x y s0 s1' hxy hne => ?_, fun z i hi hne => ?_⟩
        · have := z (144 * s + 12 * y + x).toNat (by omega)
          rw [show (((144 * s + 12 * y + x).toNat : Nat) : Int) = 144 * s + 12 * y + x by omega, fr 86 _ (by omega), fr 87 _ (by omega)] at this
          have e1 := s1 s x y s0 s1' (by omega) (by omega) (by omega) (by omega)
          have e2 := m1 s x y s0 s1' (by omega) (by omega) (by omega) (by omega)
          have this := this (fun z9 => hne (by rw [e1, e2, z9]))
          unfold m_fM at this
          have er : ∀ a : Int, 85 ≤ a → q_up ν1 0 8 0 a = μ a := fun a q => funext fun j => fr a j q
          rw [er 85 (by omega), er 89 (by omega), er 91 (by omega), er 92 (by omega), er 93 (by omega), a7, a8, show (9 * b + t) / 9 = b by omega, show (9 * b + t) % 9 = t by omega, show (144 * s + 12 * y + x) / 144 = s by omega, show m_ti (144 * s + 12 * y + x) = c_ti x y by show (144 * s + 12 * y + x) / 12 % 12 / 4 * 3 + (144 * s + 12 * y + x) % 12 / 4 = y / 4 * 3 + x / 4; omega] at this
          rw [c_fr, hfrom b t s c]
          exact this
        · have hne2 : ¬ μ 86 i = μ 87 (576 * k + i) := fun z9 => hne (by rw [fr 86 _ (by omega), fr 87 _ (by omega)]; exact z9)
          have hin : m_in w h ((i : Int) % 12) ((i : Int) / 12 % 12) := Classical.byContradiction fun z8 => hne2 (by
            have e1 := s1 ((i : Int) / 144) ((i : Int) % 12) ((i : Int) / 12 % 12) (by omega) (by omega) (by omega) (by omega) (by omega) (by omega)
            have e2 := m1 ((i : Int) / 144) ((i : Int) % 12) ((i : Int) / 12 % 12) (by omega) (by omega) (by omega) (by omega) (by omega) (by omega)
            rw [show 144 * ((i : Int) / 144) + 12 * ((i : Int) / 12 % 12) + (i : Int) % 12 = i by omega] at e1 e2
            rw [← e1, ← e2, s2 _ _ _ (by omega) (by omega) (by omega) (by omega) (by omega) (by omega) z8, m2 _ _ _ (by omega) (by omega) (by omega) (by omega) (by omega) (by omega) z8])
          have := z ((i : Int) / 144) ((i : Int) % 12) ((i : Int) / 12 % 12) (by omega) (by omega) hin (fun z9 => hne2 (by
            have e1 := s1 ((i : Int) / 144) ((i : Int) % 12) ((i : Int) / 12 % 12) (by omega) (by omega) (by omega) (by omega) (by omega) (by omega)
            have e2 := m1 ((i : Int) / 144) ((i : Int) % 12) ((i : Int) / 12 % 12) (by omega) (by omega) (by omega) (by omega) (by omega) (by omega)
            rw [show 144 * ((i : Int) / 144) + 12 * ((i : Int) / 12 % 12) + (i : Int) % 12 = i by omega] at e1 e2
            rw [← e1, ← e2, z9]))
          rw [c_fr, hfrom b t _ c] at this
          unfold m_fM
          have er : ∀ a : Int, 85 ≤ a → q_up ν1 0 8 0 a = μ a := fun a q => funext fun j => fr a j q
          rw [er 85 (by omega), er 89 (by omega), er 91 (by omega), er 92 (by omega), er 93 (by omega), a7, a8, show (9 * b + t) / 9 = b by omega, show (9 * b + t) % 9 = t by omega]
          exact this
      by_cases z : q_bit (ν1 21 b) t.toNat = true
      · rw [q_bt z]; exact key.mpr z
      · rw [q_bf z]
        rcases q3 with q3 | q3
        · exact q3
        · exact absurd (key.mp q3) z
    · rw [q1 (by omega), e9]
      have n1 : ¬ q_bit (μ 21 b) t.toNat = true := fun z => c (k1.2.2.1.2.1 b _ b0 b1 z).1
      rw [q_bf n1, q_bf (fun z => n1 (hb9.mp z).1)]
  · obtain ⟨q1, q2⟩ := r3 j
    rw [fr 85 7 (by omega), a6, fr 94 _ (by omega)] at q1
    rw [fr 85 7 (by omega), a6] at q2
    by_cases c : 0 ≤ j ∧ j < 9 * n
    · exact (q2 c).1
    · rw [q1 c]
      exact k7 j
theorem J_back {c : Nat} {μ : QM} {k : Int} (hk : q_r k) (hJ : J c μ) : sp_X10_back ([.inl k] ++ [.inr (.inr 0)]) μ (j_E c sp_X11_back [.inl k]) := by
  show sp_X10_back [.inl k, .inr (.inr 0)] μ _
  rw [sp_X10_back_e]
  obtain ⟨h1, P, Q, w, h, n, hj⟩ := id hJ
  have hro := J9_rok hj
  have hft := J9_ft hj
  have hd := hj.1.1.2.2.1
  have hn := hj.1.1.2.2.2.2.2.2.2.1
  have a5 := hj.2.1.2.1.1
  have a6 := hj.2.1.2.1.2.1
  have a7 := hj.2.1.2.1.2.2.1
  have a8 := hj.2.1.2.1.2.2.2
  have a14 := hj.2.1.2.2.2.2.2.1
  obtain ⟨s1, s2, s3, s4, s5⟩ := hj.2.2.1
  have pre : ∀ μ1 : QM, (∀ a j : Int, 85 ≤ a → μ1 a j = μ a j) → m_dim (μ1 85 2) (μ1 85 3) ∧ (0 ≤ μ1 85 7 ∧ μ1 85 7 ≤ 10) ∧ m_rok (μ1 89) (μ1 91) (μ1 93) (fun b k => μ1 92 (3 * b + k)) (μ1 85 7) ∧ (∀ b t : Int, 0 ≤ b → b < μ1 85 7 → 0 ≤ t → t < 9 → μ1 94 (9 * b + t) = 0 ∨ (μ1 94 (9 * b + t) = 1 ∧ m_tl (μ1 85 2) (μ1 85 3) t)) ∧ (∀ j : Int, q_r (μ1 86 j) ∧ q_r (μ1 87 j)) ∧ (∀ j : Int, μ1 88 j = 0 ∨ μ1 88 j = 1) := fun μ1 f => by
    have e : ∀ a : Int, 85 ≤ a → μ1 a = μ a := fun a q => funext fun j => f a j q
    rw [e 85 (by omega), e 86 (by omega), e 87 (by omega), e 88 (by omega), e 89 (by omega), e 91 (by omega), e 92 (by omega), e 93 (by omega), e 94 (by omega)]
    exact ⟨by rw [a7, a8]; exact hd, by rw [a6]; exact hn, hro, hft, s3, s4⟩
  refine ⟨rfl, hk, fun q => ?_, fun q => ?_⟩
  · refine ⟨-1, rfl, by decide, ?_⟩
    show sp_X11_back [.inl k, .inr (.inr 85)] _ _
    have pr := pre (q_up μ 0 8 (-1)) (fun a j q => by rw [u_app, if_neg (by omega)])
    rw [sp_X11_back_e, if_neg (by omega)]
    exact ⟨rfl, hk, pr.1, pr.2.1, pr.2.2.1, pr.2.2.2.1, pr.2.2.2.2.1, pr.2.2.2.2.2, rfl, J_no (by decide) hJ⟩
  · obtain ⟨e12, him⟩ := s5 k q.1 q.2
    rcases s4 k with z | z
    · refine Or.inl ⟨e12.trans z, -6, rfl, by decide, ?_⟩
      show sp_X11_back [.inl k, .inr (.inr 85)] _ _
      have e88 : q_up μ 0 8 (-6) 88 k = 0 := by rw [u_app, if_neg (by omega)]; exact z
      have pr := pre (q_up μ 0 8 (-6)) (fun a j q => by rw [u_app, if_neg (by omega)])
      rw [sp_X11_back_e, if_pos (by omega), e88]
      exact ⟨rfl, hk, pr.1, pr.2.1, pr.2.2.1, pr.2.2.2.1, pr.2.2.2.2.1, pr.2.2.2.2.2, fun _ => ⟨rfl, J_no (by decide) hJ⟩, fun z9 => absurd z9 (by decide)⟩
    · have hi := him z
      obtain ⟨m1, m2, m3⟩ := id hi
      refine Or.inr ⟨e12.trans z, P, w, h, n, hj.1, a5, a14, fun s s0 s1' => ⟨fun u v u0 u1 v0 v1 hn' => ⟨m2 s u v s0 s1' u0 u1 v0 v1 hn', s2 s u v s0 s1' u0 u1 v0 v1 hn'⟩, fun u v huv => m3 s u v s0 s1' huv⟩, fun ν1 hb => ?_⟩
      have fm : ∀ a j : Int, 85 ≤ a → q_up ν1 0 8 0 a j = μ a j := fun a j q => by rw [u_app, if_neg (by omega), hb.1 a j (by omega) (by omega) (by omega)]
      have pr := pre (q_up ν1 0 8 0) fm
      have hm : ∀ s x y : Int, 0 ≤ s → s < 4 → 0 ≤ x → x < 12 → 0 ≤ y → y < 12 → c_df1 μ k s (c_p x y) = if μ 86 (144 * s + 12 * y + x) = μ 87 (576 * k + (144 * s + 12 * y + x)) then 0 else 1 := fun s x y b0 b1 b2 b3 b4 b5 => by
        show (if μ (9 + k) (196 * s + c_p x y) = μ (4 + s) (c_p x y) then (0 : Int) else 1) = _
        rw [m1 s x y b0 b1 b2 b3 b4 b5, s1 s x y b0 b1 b2 b3 b4 b5]
        by_cases z9 : μ 87 (576 * k + (144 * s + 12 * y + x)) = μ 86 (144 * s + 12 * y + x)
        · rw [if_pos z9, if_pos z9.symm]
        · rw [if_neg z9, if_neg (fun z8 => z9 z8.symm)]
      have hg : ∀ s u v : Int, 0 ≤ s → s < 4 → -1 ≤ u → u ≤ 12 → -1 ≤ v → v ≤ 12 → u = 12 ∨ u = -1 → c_df1 μ k s (c_p u v) = 0 := fun s u v b0 b1 b2 b3 b4 b5 b6 => by
        have nin : ¬ m_in w h u v := by omega
        show (if μ (9 + k) (196 * s + c_p u v) = μ (4 + s) (c_p u v) then (0 : Int) else 1) = 0
        rw [m2 s u v b0 b1 b2 b3 b4 b5 nin, s2 s u v b0 b1 b2 b3 b4 b5 nin, if_pos rfl]
      have en : c_bks μ k 4 = m_dfn (μ 86) (fun i => μ 87 (576 * k + i)) 576 := bn_sheets hm hg 4 (by omega)
      have bd := m_dfn_b (μ 86) (fun i => μ 87 (576 * k + i)) 576
      refine ⟨_, rfl, by rw [en]; omega, ?_⟩
      show sp_X11_back [.inl k, .inr (.inr 85)] _ _
      have e88 : q_up ν1 0 8 0 88 k = 1 := (fm 88 k (by omega)).trans z
      rw [sp_X11_back_e, if_pos (by omega), e88]
      refine ⟨rfl, hk, pr.1, pr.2.1, pr.2.2.1, pr.2.2.2.1, pr.2.2.2.2.1, pr.2.2.2.2.2, fun z9 => absurd z9 (by decide), fun _ => ⟨fun i i0 i1 hni => ?_, fun ν hr e0 e1 => ⟨?_, ?_, P, Q, w, h, n, bk_J hj q hi hb hr e1⟩⟩⟩
      · rw [fm 85 2 (by omega), fm 85 3 (by omega), a7, a8] at hni
        rw [fm 86 i (by omega), fm 87 _ (by omega)]
        have x1 := s1 (i / 144) (i % 12) (i / 12 % 12) (by omega) (by omega) (by omega) (by omega) (by omega) (by omega)
        have x2 := m1 (i / 144) (i % 12) (i / 12 % 12) (by omega) (by omega) (by omega) (by omega) (by omega) (by omega)
        rw [show 144 * (i / 144) + 12 * (i / 12 % 12) + i % 12 = i by omega] at x1 x2
        rw [← x1, ← x2, s2 _ _ _ (by omega) (by omega) (by omega) (by omega) (by omega) (by omega) hni, m2 _ _ _ (by omega) (by omega) (by omega) (by omega) (by omega) (by omega) hni]
      · rw [en, show q_up ν1 0 8 0 86 = μ 86 from funext fun j => fm 86 j (by omega), show (fun i => q_up ν1 0 8 0 87 (576 * k + i)) = fun i => μ 87 (576 * k + i) from funext fun j => fm 87 _ (by omega)]
      · rw [hr.1 85 14 (by decide) (by decide) (by decide) (by decide), fm 85 14 (by omega)]
        omega

