/-! class and reference, call by call: images, size -/
theorem J9_st {P Q w h n : Int} {μ ν : QM} (f : ∀ a j : Int, ¬ j_jk a j → ¬ (a = 0 ∧ j = 8) → ¬ (a = 85 ∧ j = 1) → ν a j = μ a j) (e1 : ν 0 8 = ν 85 1) (e2 : q_r (ν 85 1)) (hJ : J9 P Q w h n μ) : J9 P Q w h n ν := by
  obtain ⟨k1, ⟨⟨a1, a2, a3, a4⟩, ⟨a5, a6, a7, a8⟩, ⟨a9, a10⟩, -, a13, a14, a15⟩, k3, k4, k5, k6⟩ := hJ
  have hP := k1.1.1
  have hn := k1.1.2.2.2.2.2.2.2.1
  refine ⟨c_ok_cg (fun a j q => f a j (by unfold j_jk; omega) (by omega) (by omega)) k1, ⟨⟨?_, ?_, a3, a4⟩, ⟨?_, ?_, ?_, ?_⟩, ⟨?_, ?_⟩, ⟨e1, e2⟩, ?_, fun j j0 j1 => ?_, fun j q => ?_⟩, j_s_jk (fun a j q => f a j (by unfold j_jk; omega) (by omega) (by omega)) k3, j_t_cg (fun a j q => f a j (by unfold j_jk; omega) (by omega) (by omega)) k4, j_p_jk hP a3 hn.2 (fun a j q => f a j (by unfold j_jk; omega) (by omega) (by omega)) k5, j_f_cg (fun a j q => f a j (by unfold j_jk; omega) (by omega) (by omega)) k6⟩
  · rw [f 0 5 (by unfold j_jk; omega) (by omega) (by omega)]; exact a1
  · rw [f 0 6 (by unfold j_jk; omega) (by omega) (by omega)]; exact a2
  · rw [f P 2 (by unfold j_jk; omega) (by omega) (by omega)]; exact a5
  · rw [f 85 7 (by unfold j_jk; omega) (by omega) (by omega)]; exact a6
  · rw [f 85 2 (by unfold j_jk; omega) (by omega) (by omega)]; exact a7
  · rw [f 85 3 (by unfold j_jk; omega) (by omega) (by omega)]; exact a8
  · rw [f 0 7 (by unfold j_jk; omega) (by omega) (by omega), f 85 36 (by unfold j_jk; omega) (by omega) (by omega)]; exact a9
  · rw [f 85 36 (by unfold j_jk; omega) (by omega) (by omega)]; exact a10
  · rw [f 20 6 (by unfold j_jk; omega) (by omega) (by omega), f 85 14 (by unfold j_jk; omega) (by omega) (by omega)]; exact a13
  · rw [f 22 j (by unfold j_jk; omega) (by omega) (by omega)]; exact a14 j j0 j1
  · rw [f 104 j (by unfold j_jk; omega) (by omega) (by omega)]; exact a15 j q
theorem J_st {c : Nat} {μ ν : QM} (f : ∀ a j : Int, ¬ j_jk a j → ¬ (a = 0 ∧ j = 8) → ¬ (a = 85 ∧ j = 1) → ν a j = μ a j) (e1 : ν 0 8 = ν 85 1) (e2 : q_r (ν 85 1)) (hJ : J c μ) : J (c + 1) ν := by
  obtain ⟨h1, P, Q, w, h, n, hJ⟩ := hJ
  exact ⟨by rw [f 85 14 (by unfold j_jk; omega) (by omega) (by omega)]; omega, P, Q, w, h, n, J9_st f e1 e2 hJ⟩
/-- a call that is refused -/
theorem J_no {c : Nat} {μ : QM} {v : Int} (hv : q_r v) (hJ : J c μ) : J (c + 1) (q_up (q_up (q_up μ 0 8 v) 85 0 0) 85 1 v) := J_st (fun a j q n1 n2 => by rw [u_app, if_neg n2, j_up0 q, u_app, if_neg n1]) (by rw [u_app, if_neg (by omega), u_app, if_neg (by omega), u_app, if_pos ⟨rfl, rfl⟩, u_app, if_pos ⟨rfl, rfl⟩]) (by rw [u_app, if_pos ⟨rfl, rfl⟩]; exact hv) hJ
theorem J_image {c : Nat} {μ : QM} {k : Int} (hk : q_r k) (hJ : J c μ) : sp_X10_image ([.inl k] ++ [.inr (.inr 0)]) μ (j_E c sp_X11_image [.inl k]) := by
  show sp_X10_image [.inl k, .inr (.inr 0)] μ _
  rw [sp_X10_image_e]
  refine ⟨rfl, hk, ?_⟩
  by_cases q : 0 ≤ k ∧ k < 3
  · rw [if_pos q]
    refine ⟨0, rfl, by decide, ?_⟩
    show sp_X11_image [.inl k, .inr (.inr 85)] _ _
    rw [sp_X11_image_e, if_pos (by omega)]
    refine ⟨rfl, hk, rfl, ?_⟩
    obtain ⟨h1, P, Q, w, h, n, hj⟩ := id hJ
    obtain ⟨k1, ⟨⟨a1, a2, a3, a4⟩, ⟨a5, a6, a7, a8⟩, ⟨a9, a10⟩, -, a13, a14, a15⟩, ⟨s1, s2, s3, s4, s5⟩, k4, k5, k6⟩ := id hj
    have hP := k1.1.1
    have hd := k1.1.2.2.1
    have hn := k1.1.2.2.2.2.2.2.2.1
    have e0 : ∀ a j : Int, ¬ (a = 9 + k) → ¬ (a = 12 ∧ j = k) → ¬ (a = 0 ∧ j = 8) → q_up (q_up (c_kp μ k 4) 12 k 1) 0 8 0 a j = μ a j := fun a j n1 n2 n3 => by
      rw [u_app, if_neg n3, u_app, if_neg n2, u_kp, if_neg (by omega)]
    have e : ∀ a j : Int, ¬ (a = 9 + k) → ¬ (a = 12 ∧ j = k) → ¬ (a = 0 ∧ j = 8) → ¬ (a = 87 ∧ 576 * k ≤ j ∧ j < 576 * k + 576) → ¬ (a = 88 ∧ j = k) → ¬ (a = 85 ∧ (j = 0 ∨ j = 1)) → q_up (q_up (m_img (q_up (q_up (q_up (c_kp μ k 4) 12 k 1) 0 8 0) 85 0 0) k 576) 88 k 1) 85 1 0 a j = μ a j := fun a j n1 n2 n3 n4 n5 n6 => by
      rw [u_app, if_neg (by omega), u_app, if_neg n5, u_img, if_neg n4, u_app, if_neg (by omega), e0 a j n1 n2 n3]
    have i1 : ∀ j : Int, 0 ≤ j → j < 784 → q_up (q_up (m_img (q_up (q_up (q_up (c_kp μ k 4) 12 k 1) 0 8 0) 85 0 0) k 576) 88 k 1) 85 1 0 (9 + k) j = μ (4 + j / 196) (j % 196) := fun j j0 j1 => by
      rw [u_app, if_neg (by omega), u_app, if_neg (by omega), u_img, if_neg (by omega), u_app, if_neg (by omega), u_app, if_neg (by omega), u_app, if_neg (by omega), u_kp, if_pos (by omega)]
    have i2 : ∀ i : Int, 0 ≤ i → i < 576 → q_up (q_up (m_img (q_up (q_up (q_up (c_kp μ k 4) 12 k 1) 0 8 0) 85 0 0) k 576) 88 k 1) 85 1 0 87 (576 * k + i) = μ 86 i := fun j j0 j1 => by
      rw [u_app, if_neg (by omega), u_app, if_neg (by omega), u_img, if_pos (by omega), u_app, if_neg (by omega), e0 86 _ (by omega) (by omega) (by omega), show 576 * k + j - 576 * k = j by omega]
    have i3 : q_up (q_up (m_img (q_up (q_up (q_up (c_kp μ k 4) 12 k 1) 0 8 0) 85 0 0) k 576) 88 k 1) 85 1 0 12 k = 1 := by
      rw [u_app, if_neg (by omega), u_app, if_neg (by omega), u_img, if_neg (by omega), u_app, if_neg (by omega), u_app, if_neg (by omega), u_app, if_pos ⟨rfl, rfl⟩]
    have i4 : q_up (q_up (m_img (q_up (q_up (q_up (c_kp μ k 4) 12 k 1) 0 8 0) 85 0 0) k 576) 88 k 1) 85 1 0 88 k = 1 := by
      rw [u_app, if_neg (by omega), u_app, if_pos ⟨rfl, rfl⟩]
    have i5 : q_up (q_up (m_img (q_up (q_up (q_up (c_kp μ k 4) 12 k 1) 0 8 0) 85 0 0) k 576) 88 k 1) 85 1 0 0 8 = 0 := by
      rw [u_app, if_neg (by omega), u_app, if_neg (by omega), u_img, if_neg (by omega), u_app, if_neg (by omega), u_app, if_pos ⟨rfl, rfl⟩]
    have i6 : q_up (q_up (m_img (q_up (q_up (q_up (c_kp μ k 4) 12 k 1) 0 8 0) 85 0 0) k 576) 88 k 1) 85 1 0 85 1 = 0 := by
      rw [u_app, if_pos ⟨rfl, rfl⟩]
    generalize q_up (q_up (m_img (q_up (q_up (q_up (c_kp μ k 4) 12 k 1) 0 8 0) 85 0 0) k 576) 88 k 1) 85 1 0 = ν at e i1 i2 i3 i4 i5 i6
    clear e0
    have f : ∀ a j : Int, ¬ (a = 0 ∧ j = 8) → ¬ (a = 85 ∧ (j = 0 ∨ j = 1)) → ¬ (9 ≤ a ∧ a ≤ 12) → ¬ (86 < a ∧ a < 89) → ν a j = μ a j := fun a j n1 n2 n3 n4 => e a j (by omega) (by omega) n1 (by omega) (by omega) n2
    have ep : ∀ x y : Int, c_p x y = (y + 1) * 14 + x + 1 := fun _ _ => rfl
    refine ⟨by rw [f 85 14 (by omega) (by omega) (by omega) (by omega)]; omega, P, Q, w, h, n, c_ok_cg (fun a j q => f a j (by omega) (by omega) (by omega) (by omega)) k1, ⟨⟨?_, ?_, a3, a4⟩, ⟨?_, ?_, ?_, ?_⟩, ⟨?_, ?_⟩, ⟨i5.trans i6.symm, by rw [i6]; decide⟩, ?_, fun j j0 j1 => ?_, fun j q => ?_⟩, ⟨fun s x y b0 b1 b2 b3 b4 b5 => ?_, fun s u v b0 b1 b2 b3 b4 b5 b6 => ?_, fun j => ⟨?_, ?_⟩, fun j => ?_, fun k' b0 b1 => ?_⟩, j_t_cg (fun a j q => f a j (by omega) (by omega) (by omega) (by omega)) k4, j_p_jk hP a3 hn.2 (fun a j q => f a j (by omega) (by omega) (by omega) (by omega)) k5, j_f_cg (fun a j q => f a j (by omega) (by omega) (by omega) (by omega)) k6⟩
    · rw [f 0 5 (by omega) (by omega) (by omega) (by omega)]; exact a1
    · rw [f 0 6 (by omega) (by omega) (by omega) (by omega)]; exact a2
    · rw [f P 2 (by omega) (by omega) (by omega) (by omega)]; exact a5
    · rw [f 85 7 (by omega) (by omega) (by omega) (by omega)]; exact a6
    · rw [f 85 2 (by omega) (by omega) (by omega) (by omega)]; exact a7
    · rw [f 85 3 (by omega) (by omega) (by omega) (by omega)]; exact a8
    · rw [f 0 7 (by omega) (by omega) (by omega) (by omega), f 85 36 (by omega) (by omega) (by omega) (by omega)]; exact a9
    · rw [f 85 36 (by omega) (by omega) (by omega) (by omega)]; exact a10
    · rw [f 20 6 (by omega) (by omega) (by omega) (by omega), f 85 14 (by omega) (by omega) (by omega) (by omega)]; exact a13
    · rw [f 22 j (by omega) (by omega) (by omega) (by omega)]; exact a14 j j0 j1
    · rw [f 104 j (by omega) (by omega) (by omega) (by omega)]; exact a15 j q
    · rw [f _ _ (by omega) (by omega) (by omega) (by omega), f 86 _ (by omega) (by omega) (by omega) (by omega)]
      exact s1 s x y b0 b1 b2 b3 b4 b5
    · rw [f _ _ (by omega) (by omega) (by omega) (by omega)]
      exact s2 s u v b0 b1 b2 b3 b4 b5 b6
    · rw [f 86 _ (by omega) (by omega) (by omega) (by omega)]
      exact (s3 j).1
    · by_cases c9 : 576 * k ≤ j ∧ j < 576 * k + 576
      · have := i2 (j - 576 * k) (by omega) (by omega)
        rw [show 576 * k + (j - 576 * k) = j by omega] at this
        rw [this]
        exact (s3 _).1
      · rw [e 87 j (by omega) (by omega) (by omega) (by omega) (by omega) (by omega)]
        exact (s3 j).2
    · by_cases c9 : j = k
      · rw [c9, i4]
        exact Or.inr rfl
      · rw [e 88 j (by omega) (by omega) (by omega) (by omega) (by omega) (by omega)]
        exact s4 j
    · by_cases c9 : k' = k
      · subst c9
        refine ⟨i3.trans i4.symm, fun _ => ⟨fun s x y b0 b1 b2 b3 b4 b5 => ?_, fun s u v b0 b1 b2 b3 b4 b5 b6 => ?_, fun s u v b0 b1 b2 => ?_⟩⟩
        · have e9 := ep x y
          rw [i1 _ (by omega) (by omega), i2 _ (by omega) (by omega), show (196 * s + c_p x y) / 196 = s by omega, show (196 * s + c_p x y) % 196 = c_p x y by omega]
          exact s1 s x y b0 b1 b2 b3 b4 b5
        · have e9 := ep u v
          rw [i1 _ (by omega) (by omega), show (196 * s + c_p u v) / 196 = s by omega, show (196 * s + c_p u v) % 196 = c_p u v by omega]
          exact s2 s u v b0 b1 b2 b3 b4 b5 b6
        · have e9 := ep u v
          rw [i1 _ (by omega) (by omega), show (196 * s + c_p u v) / 196 = s by omega, show (196 * s + c_p u v) % 196 = c_p u v by omega]
          exact k1.2.1.2 s u v b0 b1 b2
      · have e88 := e 88 k' (by omega) (by omega) (by omega) (by omega) (by omega) (by omega)
        rw [e88, e 12 k' (by omega) (by omega) (by omega) (by omega) (by omega) (by omega)]
        refine ⟨(s5 k' b0 b1).1, fun q9 => ?_⟩
        obtain ⟨m1, m2, m3⟩ := (s5 k' b0 b1).2 q9
        have er : ∀ j : Int, ν (9 + k') j = μ (9 + k') j := fun j => e _ j (by omega) (by omega) (by omega) (by omega) (by omega) (by omega)
        refine ⟨fun s x y b0 b1 b2 b3 b4 b5 => ?_, fun s u v b0 b1 b2 b3 b4 b5 b6 => ?_, fun s u v b0 b1 b2 => ?_⟩
        · rw [er, e 87 _ (by omega) (by omega) (by omega) (by omega) (by omega) (by omega)]
          exact m1 s x y b0 b1 b2 b3 b4 b5
        · rw [er]
          exact m2 s u v b0 b1 b2 b3 b4 b5 b6
        · rw [er]
          exact m3 s u v b0 b1 b2
  · rw [if_neg q]
    refine ⟨-1, rfl, by decide, ?_⟩
    show sp_X11_image [.inl k, .inr (.inr 85)] _ _
    rw [sp_X11_image_e, if_neg (by omega)]
    exact ⟨rfl, hk, rfl, J_no (by decide) hJ⟩

