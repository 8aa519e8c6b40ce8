/-! class and reference, call by call: tell -/
/-- the reference's side of it, once the class has told -/
theorem tl_J {P Q w h n s x y value : Int} {μ ν1 ν : QM} (hj : J9 P Q w h n μ) (hs : 0 ≤ s ∧ s < 4) (hxy : m_in w h x y) (hv : q_r value) (f1 : ∀ a j : Int, ¬ a = 21 → ¬ a = 22 → ¬ (a = 4 + s ∧ j = c_p x y) → ν1 a j = μ a j) (e1 : ν1 (4 + s) (c_p x y) = value) (hok : c_ok ν1 P w h n) (hb : ∀ (b : Int) (t : Nat), 0 ≤ b → b < 10 → (q_bit (ν1 21 b) t = true ↔ q_bit (μ 21 b) t = true ∧ c_fr μ P w h b t s (c_ti x y) = 0)) (h22 : ∀ j : Int, 0 ≤ j → j < 10 → q_mk (ν1 22 j))
    (f2 : ∀ a j : Int, ¬ (a = 0 ∧ j = 8) → ¬ (a = 85 ∧ (j = 0 ∨ j = 1)) → ¬ (a = 86 ∧ j = 144 * s + 12 * y + x) → ¬ a = 94 → ¬ a = 95 → ν a j = ν1 a j) (e8 : ν 0 8 = 0) (e85 : ν 85 1 = 0) (e86 : ν 86 (144 * s + 12 * y + x) = value) (e94 : ∀ j : Int, ν 94 j = if 0 ≤ j ∧ j < 9 * n then (if μ 94 j = 1 ∧ q_and (m_from w h (μ 89) (μ 91) (μ 93) (fun b k => μ 92 (3 * b + k)) (j / 9) (j % 9) s) (q_shl 1 (c_ti x y)) = 0 then 1 else 0) else μ 94 j) : J9 P Q w h n ν := by
  have hfrom := fun (b t : Int) (b1 : b < n) => J9_from hj (b := b) (t := t) (s := s) b1
  obtain ⟨k1, ⟨⟨a1, a2, a3, a4⟩, ⟨a5, a6, a7, a8⟩, ⟨a9, a10⟩, -, a13, a14, a15⟩, ⟨s1, s2, s3, s4, s5⟩, k4, k5, ⟨k6, k7⟩⟩ := hj
  have hP := k1.1.1
  have hn := k1.1.2.2.2.2.2.2.2.1
  have hd := k1.1.2.2.1
  have g : ∀ a j : Int, ¬ a = 21 → ¬ a = 22 → ¬ (4 ≤ a ∧ a < 8) → ¬ (a = 0 ∧ j = 8) → ¬ (a = 85 ∧ (j = 0 ∨ j = 1)) → ¬ a = 86 → ¬ a = 94 → ¬ a = 95 → ν a j = μ a j := fun a j n1 n2 n3 n4 n5 n6 n7 n8 => (f2 a j n4 n5 (by omega) n7 n8).trans (f1 a j n1 n2 (by omega))
  have g4 : ∀ s' j : Int, 0 ≤ s' → s' < 4 → ν (4 + s') j = if s' = s ∧ j = c_p x y then value else μ (4 + s') j := fun s' j q0 q1 => by
    rw [f2 _ _ (by omega) (by omega) (by omega) (by omega) (by omega)]
    by_cases q : s' = s ∧ j = c_p x y
    · rw [if_pos q, q.1, q.2, e1]
    · rw [if_neg q, f1 _ _ (by omega) (by omega) (by omega)]
  have g86 : ∀ j : Int, ν 86 j = if j = 144 * s + 12 * y + x then value else μ 86 j := fun j => by
    by_cases q : j = 144 * s + 12 * y + x
    · rw [if_pos q, q, e86]
    · rw [if_neg q, f2 _ _ (by omega) (by omega) (by omega) (by omega) (by omega), f1 _ _ (by omega) (by omega) (by omega)]
  refine ⟨c_ok_cg (fun a j q => f2 a j (by omega) (by omega) (by omega) (by omega) (by omega)) hok, ⟨⟨?_, ?_, a3, a4⟩, ⟨?_, ?_, ?_, ?_⟩, ⟨?_, ?_⟩, ⟨e8.trans e85.symm, by rw [e85]; decide⟩, ?_, fun j j0 j1 => ?_, fun j q => ?_⟩, ⟨fun s' x' y' b0 b1 b2 b3 b4 b5 => ?_, fun s' u v b0 b1 b2 b3 b4 b5 b6 => ?_, fun j => ⟨?_, ?_⟩, fun j => ?_, fun k b0 b1 => ?_⟩, j_t_cg (fun a j q => g a j (by omega) (by omega) (by omega) (by omega) (by omega) (by omega) (by omega) (by omega)) k4, j_p_jk hP a3 hn.2 (fun a j q => g a j (by omega) (by omega) (by omega) (by omega) (by omega) (by omega) (by omega) (by omega)) k5, ⟨fun b t b0 b1 t0 t1 => ?_, fun j => ?_⟩⟩
  · rw [g 0 5 (by decide) (by decide) (by decide) (by decide) (by decide) (by decide) (by decide) (by decide)]; exact a1
  · rw [g 0 6 (by decide) (by decide) (by decide) (by decide) (by decide) (by decide) (by decide) (by decide)]; exact a2
  · rw [g P 2 (by omega) (by omega) (by omega) (by omega) (by omega) (by omega) (by omega) (by omega)]; exact a5
  · rw [g 85 7 (by decide) (by decide) (by decide) (by decide) (by decide) (by decide) (by decide) (by decide)]; exact a6
  · rw [g 85 2 (by decide) (by decide) (by decide) (by decide) (by decide) (by decide) (by decide) (by decide)]; exact a7
  · rw [g 85 3 (by decide) (by decide) (by decide) (by decide) (by decide) (by decide) (by decide) (by decide)]; exact a8
  · rw [g 0 7 (by decide) (by decide) (by decide) (by decide) (by decide) (by decide) (by decide) (by decide), g 85 36 (by decide) (by decide) (by decide) (by decide) (by decide) (by decide) (by decide) (by decide)]; exact a9
  · rw [g 85 36 (by decide) (by decide) (by decide) (by decide) (by decide) (by decide) (by decide) (by decide)]; exact a10
  · rw [g 20 6 (by decide) (by decide) (by decide) (by decide) (by decide) (by decide) (by decide) (by decide), g 85 14 (by decide) (by decide) (by decide) (by decide) (by decide) (by decide) (by decide) (by decide)]; exact a13
  · rw [f2 22 j (by omega) (by omega) (by omega) (by omega) (by omega)]; exact h22 j j0 j1
  · rw [g 104 j (by omega) (by omega) (by omega) (by omega) (by omega) (by omega) (by omega) (by omega)]; exact a15 j q
  · rw [g4 s' _ b0 b1, g86]
    by_cases q : s' = s ∧ c_p x' y' = c_p x y
    · obtain ⟨q1, q2⟩ := c_p_inj (y := y') (v := y) (by omega) (by omega) q.2
      rw [if_pos q, if_pos (by omega)]
    · rw [if_neg q, if_neg (fun q9 => q ⟨by omega, by rw [show x' = x by omega, show y' = y by omega]⟩)]
      exact s1 s' x' y' b0 b1 b2 b3 b4 b5
  · rw [g4 s' _ b0 b1, if_neg (fun q => b6 (by
      obtain ⟨q1, q2⟩ := c_p_inj (y := v) (v := y) (by omega) (by omega) q.2
      rw [q1, q2]
      exact hxy))]
    exact s2 s' u v b0 b1 b2 b3 b4 b5 b6
  · rw [g86]
    split
    · exact hv
    · exact (s3 j).1
  · rw [g 87 j (by omega) (by omega) (by omega) (by omega) (by omega) (by omega) (by omega) (by omega)]; exact (s3 j).2
  · rw [g 88 j (by omega) (by omega) (by omega) (by omega) (by omega) (by omega) (by omega) (by omega)]; exact s4 j
  · have ei : ∀ j : Int, ν (9 + k) j = μ (9 + k) j := fun j => g _ j (by omega) (by omega) (by omega) (by omega) (by omega) (by omega) (by omega) (by omega)
    rw [g 12 k (by omega) (by omega) (by omega) (by omega) (by omega) (by omega) (by omega) (by omega), g 88 k (by omega) (by omega) (by omega) (by omega) (by omega) (by omega) (by omega) (by omega)]
    refine ⟨(s5 k b0 b1).1, fun q => ?_⟩
    obtain ⟨m1, m2, m3⟩ := (s5 k b0 b1).2 q
    refine ⟨fun s x y c0 c1 c2 c3 c4 c5 => ?_, fun s u v c0 c1 c2 c3 c4 c5 c6 => ?_, fun s u v c0 c1 c2 => ?_⟩
    · rw [ei, g 87 _ (by omega) (by omega) (by omega) (by omega) (by omega) (by omega) (by omega) (by omega)]; exact m1 s x y c0 c1 c2 c3 c4 c5
    · rw [ei]; exact m2 s u v c0 c1 c2 c3 c4 c5 c6
    · rw [ei]; exact m3 s u v c0 c1 c2
  · have e9 := k6 b t b0 b1 t0 t1
    have hbt := hb b t.toNat b0 b1
    rw [e94, e9, show (9 * b + t) / 9 = b by omega, show (9 * b + t) % 9 = t by omega, f2 21 b (by omega) (by omega) (by omega) (by omega) (by omega)]
    by_cases c : b < n
    · rw [if_pos (by omega)]
      rw [show ((t.toNat : Nat) : Int) = t by omega, c_fr, hfrom b t c] at hbt
      by_cases q1 : q_bit (ν1 21 b) t.toNat = true
      · obtain ⟨z1, z2⟩ := hbt.mp q1
        rw [q_bt q1, q_bt z1, if_pos ⟨rfl, z2⟩]
      · rw [q_bf q1, if_neg]
        rintro ⟨z1, z2⟩
        by_cases z3 : q_bit (μ 21 b) t.toNat = true
        · exact q1 (hbt.mpr ⟨z3, z2⟩)
        · rw [q_bf z3] at z1
          exact absurd z1 (by decide)
    · rw [if_neg (by omega)]
      have n1 : ¬ q_bit (μ 21 b) t.toNat = true := fun z => c (k1.2.2.1.2.1 b _ b0 b1 z).1
      rw [q_bf n1, q_bf (fun z => n1 (hbt.mp z).1)]
  · rw [e94]
    split
    · split
      · exact Or.inr rfl
      · exact Or.inl rfl
    · exact k7 j
theorem J_tell {c : Nat} {μ : QM} {s x y v : Int} (hs : q_r s) (hx : q_r x) (hy : q_r y) (hv : q_r v) (hJ : J c μ) : sp_X10_tell ([.inl v, .inl y, .inl x, .inl s] ++ [.inr (.inr 0)]) μ (j_E c sp_X11_tell [.inl v, .inl y, .inl x, .inl s]) := by
  show sp_X10_tell [.inl v, .inl y, .inl x, .inl s, .inr (.inr 0)] μ _
  rw [sp_X10_tell_e]
  obtain ⟨h1, P, Q, w, h, n, hj⟩ := id hJ
  have hro := J9_rok hj
  have hft := J9_ft hj
  have hd := hj.1.1.2.2.1
  have hn := hj.1.1.2.2.2.2.2.2.2.1
  have a5 := hj.2.1.2.1.1
  have a6 := hj.2.1.2.1.2.1
  have a7 := hj.2.1.2.1.2.2.1
  have a8 := hj.2.1.2.1.2.2.2
  have a14 := hj.2.1.2.2.2.2.2.1
  refine ⟨rfl, ⟨hs, hx, hy, hv⟩, P, w, h, n, hj.1, a5, a14, ?_⟩
  have pre : ∀ μ1 : QM, (∀ a j : Int, 85 ≤ a → μ1 a j = μ a j) → m_dim (μ1 85 2) (μ1 85 3) ∧ (0 ≤ μ1 85 7 ∧ μ1 85 7 ≤ 10) ∧ m_rok (μ1 89) (μ1 91) (μ1 93) (fun b k => μ1 92 (3 * b + k)) (μ1 85 7) ∧ (∀ b t : Int, 0 ≤ b → b < μ1 85 7 → 0 ≤ t → t < 9 → μ1 94 (9 * b + t) = 0 ∨ (μ1 94 (9 * b + t) = 1 ∧ m_tl (μ1 85 2) (μ1 85 3) t)) := fun μ1 f => by
    have e : ∀ a : Int, 85 ≤ a → μ1 a = μ a := fun a q => funext fun j => f a j q
    rw [e 85 (by omega), e 89 (by omega), e 91 (by omega), e 92 (by omega), e 93 (by omega), e 94 (by omega)]
    exact ⟨by rw [a7, a8]; exact hd, by rw [a6]; exact hn, hro, hft⟩
  by_cases q1 : ¬ (0 ≤ s ∧ s < 4) ∨ ¬ (v = -2000000000 ∨ (-1000000 ≤ v ∧ v ≤ 1000000))
  · rw [if_pos q1]
    refine ⟨-1, rfl, by decide, ?_⟩
    show sp_X11_tell [.inl v, .inl y, .inl x, .inl s, .inr (.inr 85)] _ _
    have pr := pre (q_up μ 0 8 (-1)) (fun a j q => by rw [u_app, if_neg (by omega)])
    rw [sp_X11_tell_e, if_pos (by omega)]
    exact ⟨rfl, ⟨hs, hx, hy, hv⟩, pr.1, pr.2.1, pr.2.2.1, pr.2.2.2, rfl, J_no (by decide) hJ⟩
  · rw [if_neg q1]
    by_cases q2 : ¬ m_in w h x y
    · rw [if_pos q2]
      refine ⟨-2, rfl, by decide, ?_⟩
      show sp_X11_tell [.inl v, .inl y, .inl x, .inl s, .inr (.inr 85)] _ _
      have pr := pre (q_up μ 0 8 (-2)) (fun a j q => by rw [u_app, if_neg (by omega)])
      have e2 : q_up μ 0 8 (-2) 85 2 = w := by rw [u_app, if_neg (by omega)]; exact a7
      have e3 : q_up μ 0 8 (-2) 85 3 = h := by rw [u_app, if_neg (by omega)]; exact a8
      rw [sp_X11_tell_e, if_neg (by omega), if_pos (by rw [e2, e3]; exact q2)]
      exact ⟨rfl, ⟨hs, hx, hy, hv⟩, pr.1, pr.2.1, pr.2.2.1, pr.2.2.2, rfl, J_no (by decide) hJ⟩
    · rw [if_neg q2]
      have hxy := Classical.not_not.mp q2
      intro ν1 f1 e1 hok hb h22
      refine ⟨0, rfl, by decide, ?_⟩
      show sp_X11_tell [.inl v, .inl y, .inl x, .inl s, .inr (.inr 85)] _ _
      have fm : ∀ a j : Int, 85 ≤ a → q_up ν1 0 8 0 a j = μ a j := fun a j q => by rw [u_app, if_neg (by omega), f1 a j (by omega) (by omega) (by omega)]
      have pr := pre (q_up ν1 0 8 0) fm
      have e2 : q_up ν1 0 8 0 85 2 = w := (fm 85 2 (by omega)).trans a7
      have e3 : q_up ν1 0 8 0 85 3 = h := (fm 85 3 (by omega)).trans a8
      have e7 : q_up ν1 0 8 0 85 7 = n := (fm 85 7 (by omega)).trans a6
      rw [sp_X11_tell_e, if_neg (by omega), if_neg (by rw [e2, e3]; exact q2)]
      refine ⟨rfl, ⟨hs, hx, hy, hv⟩, pr.1, pr.2.1, pr.2.2.1, pr.2.2.2, fun g => ⟨rfl, ?_, P, Q, w, h, n, ?_⟩⟩
      · rw [u_app, if_neg (by omega), u_blk, if_neg (by omega), u_blk, if_neg (by omega), u_app, if_neg (by omega), u_app, if_neg (by omega), fm 85 14 (by omega)]
        omega
      · refine tl_J (s := s) (x := x) (y := y) (value := v) (ν1 := ν1) hj (by omega) hxy hv f1 e1 hok hb h22 (fun a j n1 n2 n3 n4 n5 => ?_) ?_ ?_ ?_ (fun j => ?_)
        · rw [u_app, if_neg (by omega), u_blk, if_neg (by omega), u_blk, if_neg (by omega), u_app, if_neg n3, u_app, if_neg (by omega), u_app, if_neg n1]
        · rw [u_app, if_neg (by omega), u_blk, if_neg (by omega), u_blk, if_neg (by omega), u_app, if_neg (by omega), u_app, if_neg (by omega), u_app, if_pos ⟨rfl, rfl⟩]
        · rw [u_app, if_pos ⟨rfl, rfl⟩]
        · rw [u_app, if_neg (by omega), u_blk, if_neg (by omega), u_blk, if_neg (by omega), u_app, if_pos ⟨rfl, rfl⟩]
        · rw [u_app, if_neg (by omega), u_blk]
          have e : ∀ a : Int, 85 ≤ a → q_up ν1 0 8 0 a = μ a := fun a q => funext fun j => fm a j q
          unfold m_pf
          rw [e7, e2, e3, e 89 (by omega), e 91 (by omega), e 92 (by omega), e 93 (by omega), e 94 (by omega)]
          by_cases c1 : 0 ≤ j ∧ j < 9 * n
          · rw [if_pos (by omega), if_pos (by omega), if_pos c1]
          · by_cases c2 : 0 ≤ j ∧ j < 90
            · rw [if_pos (by omega), if_neg (by omega), if_neg c1]
            · rw [if_neg (by omega), if_neg c1, u_blk, if_neg (by omega), u_app, if_neg (by omega), u_app, if_neg (by omega), fm 94 j (by omega)]

