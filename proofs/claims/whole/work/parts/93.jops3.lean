/-! class and reference, call by call: images, size -/
theorem J9_st {P Q w h n : Int} {μ ν : QM} (f : ∀ a j : Int, ¬ j_jk a j → ¬ (a = 0 ∧ j = 8) → ¬ (a = 85 ∧ j = 1) → ν a j = μ a j) (e1 : ν 0 8 = ν 85 1) (e2 : q_r (ν 85 1)) (hJ : J9 P Q w h n μ) : J9 P Q w h n ν := by
  obtain ⟨k1, ⟨⟨a1, a2, a3, a4⟩, ⟨a5, a6, a7, a8⟩, ⟨a9, a10⟩, -, a13, a14, a15⟩, k3, k4, k5, k6⟩ := hJ
  have hP := k1.1.1
  have hn := k1.1.2.2.2.2.2.2.2.1
  refine ⟨c_ok_cg (fun a j q => f a j (by unfold j_jk; omega) (by omega) (by omega)) k1, ⟨⟨?_, ?_, a3, a4⟩, ⟨?_, ?_, ?_, ?_⟩, ⟨?_, ?_⟩, ⟨e1, e2⟩, ?_, fun j j0 j1 => ?_, fun j q => ?_⟩, j_s_jk (fun a j q => f a j (by unfold j_jk; omega) (by omega) (by omega)) k3, j_t_cg (fun a j q => f a j (by unfold j_jk; omega) (by omega) (by omega)) k4, j_p_jk hP a3 hn.2 (fun a j q => f a j (by unfold j_jk; omega) (by omega) (by omega)) k5, j_f_cg (fun a j q => f a j (by unfold j_jk; omega) (by omega) (by omega)) k6⟩
  · rw [f 0 5 (by unfold j_jk; omega) (by omega) (by omega)]; exact a1
  · rw [f 0 6 (by unfold j_jk; omega) (by omega) (by omega)]; exact a2
  · rw [f P 2 (by unfold j_jk; omega) (by omega) (by omega)]; exact a5
  · rw [f 85 7 (by unfold j_jk; omega) (by omega) (by omega)]; exact a6
  · rw [f 85 2 (by unfold j_jk; omega) (by omega) (by omega)]; exact a7
  · rw [f 85 3 (by unfold j_jk; omega) (by omega) (by omega)]; exact a8
  · rw [f 0 7 (by unfold j_jk; omega) (by omega) (by omega), f 85 36 (by unfold j_jk; omega) (by omega) (by omega)]; exact a9
  · rw [f 85 36 (by unfold j_jk; omega) (by omega) (by omega)]; exact a10
  · rw [f 20 6 (by unfold j_jk; omega) (by omega) (by omega), f 85 14 (by unfold j_jk; omega) (by omega) (by omega)]; exact a13
  · rw [f 22 j (by unfold j_jk; omega) (by omega) (by omega)]; exact a14 j j0 j1
  · rw [f 104 j (by unfold j_jk; omega) (by omega) (by omega)]; exact a15 j q
theorem J_st {c : Nat} {μ ν : QM} (f : ∀ a j : Int, ¬ j_jk a j → ¬ (a = 0 ∧ j = 8) → ¬ (a = 85 ∧ j = 1) → ν a j = μ a j) (e1 : ν 0 8 = ν 85 1) (e2 : q_r (ν 85 1)) (hJ : J c μ) : J (c + 1) ν := by
  obtain ⟨h1, P, Q, w, h, n, hJ⟩ := hJ
  exact ⟨by rw [f 85 14 (by unfold j_jk; omega) (by omega) (by omega)]; omega, P, Q, w, h, n, J9_st f e1 e2 hJ⟩
/-- a call that is refused -/
theorem J_no {c : Nat} {μ : QM} {v : Int} (hv : q_r v) (hJ : J c μ) : J (c + 1) (q_up (q_up (q_up μ 0 8 v) 85 0 0) 85 1 v) := J_st (fun a j q n1 n2 => by rw [u_app, if_neg n2, j_up0 q, u_app, if_neg n1]) (by rw [u_app, if_neg (by omega), u_app, if_neg (by omega), u_app, if_pos ⟨rfl, rfl⟩, u_app, if_pos ⟨rfl, rfl⟩]) (by rw [u_app, if_pos ⟨rfl, rfl⟩]; exact hv) hJ
theorem J_image {c : Nat} {μ : QM} {k : Int} (hk : q_r k) (hJ : J c μ) : sp_X10_image ([.inl k] ++ [.inr (.inr 0)]) μ (j_E c sp_X11_image [.inl k]) := by
  show sp_X10_image [.inl k, .inr (.inr 0)] μ _
  rw [sp_X10_image_e]
  refine ⟨rfl, hk, ?_⟩
  by_cases q : 0 ≤ k ∧ k < 3
  · rw [if_pos q]
    refine ⟨0, rfl, by decide, ?_⟩
    show sp_X11_image [.inl k, .inr (.inr 85)] _ _
    rw [sp_X11_image_e, if_pos (by omega)]
    refine ⟨rfl, hk, rfl, ?_⟩
    obtain ⟨h1, P, Q, w, h, n, hj⟩ := id hJ
    obtain ⟨k1, ⟨⟨a1, a2, a3, a4⟩, ⟨a5, a6, a7, a8⟩, ⟨a9, a10⟩, -, a13, a14, a15⟩, ⟨s1, s2, s3, s4, s5⟩, k4, k5, k6⟩ := id hj
    have hP := k1.1.1
    have hd := k1.1.2.2.1
    have hn := k1.1.2.2.2.2.2.2.2.1
    have e0 : ∀ a j : Int, ¬ (a = 9 + k) → ¬ (a = 12 ∧ j = k) → ¬ (a = 0 ∧ j = 8) → q_up (q_up (c_kp μ k 4) 12 k 1) 0 8 0 a j = μ a j := fun a j n1 n2 n3 => by
      rw [u_app, if_neg n3, u_app, if_neg n2, u_kp, if_neg (by omega)]
    have e : ∀ a j : Int, ¬ (a = 9 + k) → ¬ (a = 12 ∧ j = k) → ¬ (a = 0 ∧ j = 8) → ¬ (a = 87 ∧ 576 * k ≤ j ∧ j < 576 * k + 576) → ¬ (a = 88 ∧ j = k) → ¬ (a = 85 ∧ (j = 0 ∨ j = 1)) → q_up (q_up (m_img (q_up (q_up (q_up (c_kp μ k 4) 12 k 1) 0 8 0) 85 0 0) k 576) 88 k 1) 85 1 0 a j = μ a j := fun a j n1 n2 n3 n4 n5 n6 => by
      rw [u_app, if_neg (by omega), u_app, if_neg n5, u_img, if_neg n4, u_app, if_neg (by omega), e0 a j n1 n2 n3]
    have i1 : ∀ j : Int, 0 ≤ j → j < 784 → q_up (q_up (m_img (q_up (q_up (q_up (c_kp μ k 4) 12 k 1) 0 8 0) 85 0 0) k 576) 88 k 1) 85 1 0 (9 + k) j = μ (4 + j / 196) (j % 196) := fun j j0 j1 => by
      rw [u_app, if_neg (by omega), u_app, if_neg (by omega), u_img, if_neg (by omega), u_app, if_neg (by omega), u_app, if_neg (by omega), u_app, if_neg (by omega), u_kp, if_pos (by omega)]
    have i2 : ∀ i : Int, 0 ≤ i → i < 576 → q_up (q_up (m_img (q_up (q_up (q_up (c_kp μ k 4) 12 k 1) 0 8 0) 85 0 0) k 576) 88 k 1) 85 1 0 87 (576 * k + i) = μ 86 i := fun j j0 j1 => by
      rw [u_app, if_neg (by omega), u_app, if_neg (by omega), u_img, if_pos (by omega), u_app, if_neg (by omega), e0 86 _ (by omega) (by omega) (by omega), show 576 * k + j - 576 * k = j by omega]
    have i3 : q_up (q_up (m_img (q_up (q_up (q_up (c_kp μ k 4) 12 k 1) 0 8 0) 85 0 0) k 576) 88 k 1) 85 1 0 12 k = 1 := by
      rw [u_app, if_neg (by omega), u_app, if_neg (by omega), u_img, if_neg (by omega), u_app, if_neg (by omega), u_app, if_neg (by omega), u_app, if_pos ⟨rfl, rfl⟩]
    have i4 : q_up (q_up (m_img (q_up (q_up (q_up (c_kp μ k 4) 12 k 1) 0 8 0) 85 0 0) k 576) 88 k 1) 85 1 0 88 k = 1 := by
      rw [u_app, if_neg (by omega), u_app, if_pos ⟨rfl, rfl⟩]
    have i5 : q_up (q_up (m_img (q_up (q_up (q_up (c_kp μ k 4) 12 k 1) 0 8 0) 85 0 0) k 576) 88 k 1) 85 1 0 0 8 = 0 := by
      rw [u_app, if_neg (by omega), u_app, if_neg (by omega), u_img, if_neg (by omega), u_app, if_neg (by omega), u_app, if_pos ⟨rfl, rfl⟩]
    have i6 : q_up (q_up (m_img (q_up (q_up (q_up (c_kp μ k 4) 12 k 1) 0 8 0) 85 0 0) k 576) 88 k 1) 85 1 0 85 1 = 0 := by
      rw [u_app, if_pos ⟨rfl, rfl⟩]
    generalize q_up (q_up (m_img (q_up (q_up (q_up (c_kp μ k 4) 12 k 1) 0 8 0) 85 0 0) k 576) 88 k 1) 85 1 0 = ν at e i1 i2 i3 i4 i5 i6
    clear e0
    have f : ∀ a j : Int, ¬ (a = 0 ∧ j = 8) → ¬ (a = 85 ∧ (j = 0 ∨ j = 1)) → ¬ (9 ≤ a ∧ a ≤ 12) → ¬ (86 < a ∧ a < 89) → ν a j = μ a j := fun a j n1 n2 n3 n4 => e a j (by omega) (by omega) n1 (by omega) (by omega) n2
    have ep : ∀ x y : Int, c_p x y = (y + 1) * 14 + x + 1 := fun _ _ => rfl
    refine ⟨by rw [f 85 14 (by omega) (by omega) (by omega) (by omega)]; omega, P, Q, w, h, n, c_ok_cg (fun a j q => f a j (by omega) (by omega) (by omega) (by omega)) k1, ⟨⟨?_, ?_, a3, a4⟩, ⟨?_, ?_, ?_, ?_⟩, ⟨?_, ?_⟩, ⟨i5.trans i6.symm, by rw [i6]; decide⟩, ?_, fun j j0 j1 => ?_, fun j q => ?_⟩, ⟨fun s x y b0 b1 b2 b3 b4 b5 => ?_, fun s u v b0 b1 b2 b3 b4 b5 b6 => ?_, fun j => ⟨?_, ?_⟩, fun j => ?_, fun k' b0 b1 => ?_⟩, j_t_cg (fun a j q => f a j (by omega) (by omega) (by omega) (by omega)) k4, j_p_jk hP a3 hn.2 (fun a j q => f a j (by omega) (by omega) (by omega) (by omega)) k5, j_f_cg (fun a j q => f a j (by omega) (by omega) (by omega) (by omega)) k6⟩
    · rw [f 0 5 (by omega) (by omega) (by omega) (by omega)]; exact a1
    · rw [f 0 6 (by omega) (by omega) (by omega) (by omega)]; exact a2
    · rw [f P 2 (by omega) (by omega) (by omega) (by omega)]; exact a5
    · rw [f 85 7 (by omega) (by omega) (by omega) (by omega)]; exact a6
    · rw [f 85 2 (by omega) (by omega) (by omega) (by omega)]; exact a7
    · rw [f 85 3 (by omega) (by omega) (by omega) (by omega)]; exact a8
    · rw [f 0 7 (by omega) (by omega) (by omega) (by omega), f 85 36 (by omega) (by omega) (by omega) (by omega)]; exact a9
    · rw [f 85 36 (by omega) (by omega) (by omega) (by omega)]; exact a10
    · rw [f 20 6 (by omega) (by omega) (by omega) (by omega), f 85 14 (by omega) (by omega) (by omega) (by omega)]; exact a13
    · rw [f 22 j (by omega) (by omega) (by omega) (by omega)]; exact a14 j j0 j1
    · rw [f 104 j (by omega) (by omega) (by omega) (by omega)]; exact a15 j q
    · rw [f _ _ (by omega) (by omega) (by omega) (by omega), f 86 _ (by omega) (by omega) (by omega) (by omega)]
      exact s1 s x y b0 b1 b2 b3 b4 b5
    · rw [f _ _ (by omega) (by omega) (by omega) (by omega)]
      exact s2 s u v b0 b1 b2 b3 b4 b5 b6
    · rw [f 86 _ (by omega) (by omega) (by omega) (by omega)]
      exact (s3 j).1
    · by_cases c9 : 576 * k ≤ j ∧ j < 576 * k + 576
      · have := i2 (j - 576 * k) (by omega) (by omega)
        rw [show 576 * k + (j - 576 * k) = j by omega] at this
        rw [this]
        exact (s3 _).1
      · rw [e 87 j (by omega) (by omega) (by omega) (by omega) (by omega) (by omega)]
        exact (s3 j).2
    · by_cases c9 : j = k
      · rw [c9, i4]
        exact Or.inr rfl
      · rw [e 88 j (by omega) (by omega) (by omega) (by omega) (by omega) (by omega)]
        exact s4 j
    · by_cases c9 : k' = k
      · subst c9
        refine ⟨i3.trans i4.symm, fun _ => ⟨fun s x y b0 b1 b2 b3 b4 b5 => ?_, fun s u v b0 b1 b2 b3 b4 b5 b6 => ?_, fun s u v b0 b1 b2 => ?_⟩⟩
        · have e9 := ep x y
          rw [i1 _ (by omega) (by omega), i2 _ (by omega) (by omega), show (196 * s + c_p x y) / 196 = s by omega, show (196 * s + c_p x y) % 196 = c_p x y by omega]
          exact s1 s x y b0 b1 b2 b3 b4 b5
        · have e9 := ep u v
          rw [i1 _ (by omega) (by omega), show (196 * s + c_p u v) / 196 = s by omega, show (196 * s + c_p u v) % 196 = c_p u v by omega]
          exact s2 s u v b0 b1 b2 b3 b4 b5 b6
        · have e9 := ep u v
          rw [i1 _ (by omega) (by omega), show (196 * s + c_p u v) / 196 = s by omega, show (196 * s + c_p u v) % 196 = c_p u v by omega]
          exact k1.2.1.2 s u v b0 b1 b2
      · have e88 := e 88 k' (by omega) (by omega) (by omega) (by omega) (by omega) (by omega)
        rw [e88, e 12 k' (by omega) (by omega) (by omega) (by omega) (by omega) (by omega)]
        refine ⟨(s5 k' b0 b1).1, fun q9 => ?_⟩
        obtain ⟨m1, m2, m3⟩ := (s5 k' b0 b1).2 q9
        have er : ∀ j : Int, ν (9 + k') j = μ (9 + k') j := fun j => e _ j (by omega) (by omega) (by omega) (by omega) (by omega) (by omega)
        refine ⟨fun s x y b0 b1 b2 b3 b4 b5 => ?_, fun s u v b0 b1 b2 b3 b4 b5 b6 => ?_, fun s u v b0 b1 b2 => ?_⟩
        · rw [er, e 87 _ (by omega) (by omega) (by omega) (by omega) (by omega) (by omega)]
          exact m1 s x y b0 b1 b2 b3 b4 b5
        · rw [er]
          exact m2 s u v b0 b1 b2 b3 b4 b5 b6
        · rw [er]
          exact m3 s u v b0 b1 b2
  · rw [if_neg q]
    refine ⟨-1, rfl, by decide, ?_⟩
    show sp_X11_image [.inl k, .inr (.inr 85)] _ _
    rw [sp_X11_image_e, if_neg (by omega)]
    exact ⟨rfl, hk, rfl, J_no (by decide) hJ⟩
theorem J_size {c : Nat} {μ : QM} {w' h' : Int} (hw : q_r w') (hh : q_r h') (hJ : J c μ) : sp_X10_size ([.inl h', .inl w'] ++ [.inr (.inr 0)]) μ (j_E c sp_X11_size [.inl h', .inl w']) := by
  show sp_X10_size [.inl h', .inl w', .inr (.inr 0)] μ _
  rw [sp_X10_size_e]
  refine ⟨rfl, ⟨hw, hh⟩, ?_⟩
  by_cases q : (2 ≤ w' ∧ w' ≤ 12) ∧ 2 ≤ h' ∧ h' ≤ 12
  · rw [if_pos q]
    refine ⟨0, rfl, by decide, ?_⟩
    show sp_X11_size [.inl h', .inl w', .inr (.inr 85)] _ _
    rw [sp_X11_size_e, if_pos q]
    refine ⟨rfl, ⟨hw, hh⟩, rfl, ?_⟩
    obtain ⟨h1, P, Q, w, h, n, hj⟩ := id hJ
    obtain ⟨k1, ⟨⟨a1, a2, a3, a4⟩, ⟨a5, a6, a7, a8⟩, ⟨a9, a10⟩, -, a13, a14, a15⟩, ⟨s1, s2, s3, s4, s5⟩, k4, k5, k6⟩ := id hj
    have hP := k1.1.1
    have hn := k1.1.2.2.2.2.2.2.2.1
    have e : ∀ a j : Int, ¬ a = 1 → ¬ (4 ≤ a ∧ a < 8) → ¬ a = 12 → ¬ a = 21 → ¬ (24 ≤ a ∧ a < 34) → ¬ (a = 0 ∧ j = 8) → ¬ (a = 85 ∧ (j = 0 ∨ j = 1 ∨ j = 2 ∨ j = 3)) → ¬ a = 86 → ¬ a = 88 → ¬ a = 94 → (q_up (q_fill (q_fill (q_fill (q_up (q_up (q_up (q_up (q_rows (q_fill (q_fill (q_rows (q_up (q_up (q_up μ 1 0 w') 1 1 h') 1 2 (q_tm w' h')) 4 4 196 (-2000000000)) 12 0 3 0) 21 0 10 0) 24 10 196 (-2000000000)) 0 8 0) 85 0 0) 85 2 w') 85 3 h') 86 0 576 (-2000000000)) 88 0 3 0) 94 0 90 0) 85 1 0) a j = μ a j := fun a j n1 n2 n3 n4 n5 n6 n7 n8 n9 n10 => by
      rw [u_app, if_neg (by omega), u_fill, if_neg (by omega), u_fill, if_neg (by omega), u_fill, if_neg (by omega), u_app, if_neg (by omega), u_app, if_neg (by omega), u_app, if_neg (by omega), u_app, if_neg (by omega), u_rows, if_neg (by omega), u_fill, if_neg (by omega), u_fill, if_neg (by omega), u_rows, if_neg (by omega), u_app, if_neg (by omega), u_app, if_neg (by omega), u_app, if_neg (by omega)]
    have v10 : (q_up (q_fill (q_fill (q_fill (q_up (q_up (q_up (q_up (q_rows (q_fill (q_fill (q_rows (q_up (q_up (q_up μ 1 0 w') 1 1 h') 1 2 (q_tm w' h')) 4 4 196 (-2000000000)) 12 0 3 0) 21 0 10 0) 24 10 196 (-2000000000)) 0 8 0) 85 0 0) 85 2 w') 85 3 h') 86 0 576 (-2000000000)) 88 0 3 0) 94 0 90 0) 85 1 0) 1 0 = w' := by
      rw [u_app, if_neg (by omega), u_fill, if_neg (by omega), u_fill, if_neg (by omega), u_fill, if_neg (by omega), u_app, if_neg (by omega), u_app, if_neg (by omega), u_app, if_neg (by omega), u_app, if_neg (by omega), u_rows, if_neg (by omega), u_fill, if_neg (by omega), u_fill, if_neg (by omega), u_rows, if_neg (by omega), u_app, if_neg (by omega), u_app, if_neg (by omega), u_app, if_pos (by omega)]
    have v11 : (q_up (q_fill (q_fill (q_fill (q_up (q_up (q_up (q_up (q_rows (q_fill (q_fill (q_rows (q_up (q_up (q_up μ 1 0 w') 1 1 h') 1 2 (q_tm w' h')) 4 4 196 (-2000000000)) 12 0 3 0) 21 0 10 0) 24 10 196 (-2000000000)) 0 8 0) 85 0 0) 85 2 w') 85 3 h') 86 0 576 (-2000000000)) 88 0 3 0) 94 0 90 0) 85 1 0) 1 1 = h' := by
      rw [u_app, if_neg (by omega), u_fill, if_neg (by omega), u_fill, if_neg (by omega), u_fill, if_neg (by omega), u_app, if_neg (by omega), u_app, if_neg (by omega), u_app, if_neg (by omega), u_app, if_neg (by omega), u_rows, if_neg (by omega), u_fill, if_neg (by omega), u_fill, if_neg (by omega), u_rows, if_neg (by omega), u_app, if_neg (by omega), u_app, if_pos (by omega)]
    have v12 : (q_up (q_fill (q_fill (q_fill (q_up (q_up (q_up (q_up (q_rows (q_fill (q_fill (q_rows (q_up (q_up (q_up μ 1 0 w') 1 1 h') 1 2 (q_tm w' h')) 4 4 196 (-2000000000)) 12 0 3 0) 21 0 10 0) 24 10 196 (-2000000000)) 0 8 0) 85 0 0) 85 2 w') 85 3 h') 86 0 576 (-2000000000)) 88 0 3 0) 94 0 90 0) 85 1 0) 1 2 = q_tm w' h' := by
      rw [u_app, if_neg (by omega), u_fill, if_neg (by omega), u_fill, if_neg (by omega), u_fill, if_neg (by omega), u_app, if_neg (by omega), u_app, if_neg (by omega), u_app, if_neg (by omega), u_app, if_neg (by omega), u_rows, if_neg (by omega), u_fill, if_neg (by omega), u_fill, if_neg (by omega), u_rows, if_neg (by omega), u_app, if_pos (by omega)]
    have v4 : ∀ s j : Int, 0 ≤ s → s < 4 → 0 ≤ j → j < 196 → (q_up (q_fill (q_fill (q_fill (q_up (q_up (q_up (q_up (q_rows (q_fill (q_fill (q_rows (q_up (q_up (q_up μ 1 0 w') 1 1 h') 1 2 (q_tm w' h')) 4 4 196 (-2000000000)) 12 0 3 0) 21 0 10 0) 24 10 196 (-2000000000)) 0 8 0) 85 0 0) 85 2 w') 85 3 h') 86 0 576 (-2000000000)) 88 0 3 0) 94 0 90 0) 85 1 0) (4 + s) j = -2000000000 := fun s j s0 s1 j0 j1 => by
      rw [u_app, if_neg (by omega), u_fill, if_neg (by omega), u_fill, if_neg (by omega), u_fill, if_neg (by omega), u_app, if_neg (by omega), u_app, if_neg (by omega), u_app, if_neg (by omega), u_app, if_neg (by omega), u_rows, if_neg (by omega), u_fill, if_neg (by omega), u_fill, if_neg (by omega), u_rows, if_pos (by omega)]
    have v12k : ∀ k : Int, 0 ≤ k → k < 3 → (q_up (q_fill (q_fill (q_fill (q_up (q_up (q_up (q_up (q_rows (q_fill (q_fill (q_rows (q_up (q_up (q_up μ 1 0 w') 1 1 h') 1 2 (q_tm w' h')) 4 4 196 (-2000000000)) 12 0 3 0) 21 0 10 0) 24 10 196 (-2000000000)) 0 8 0) 85 0 0) 85 2 w') 85 3 h') 86 0 576 (-2000000000)) 88 0 3 0) 94 0 90 0) 85 1 0) 12 k = 0 := fun k k0 k1 => by
      rw [u_app, if_neg (by omega), u_fill, if_neg (by omega), u_fill, if_neg (by omega), u_fill, if_neg (by omega), u_app, if_neg (by omega), u_app, if_neg (by omega), u_app, if_neg (by omega), u_app, if_neg (by omega), u_rows, if_neg (by omega), u_fill, if_neg (by omega), u_fill, if_pos (by omega)]
    have v21 : ∀ b : Int, 0 ≤ b → b < 10 → (q_up (q_fill (q_fill (q_fill (q_up (q_up (q_up (q_up (q_rows (q_fill (q_fill (q_rows (q_up (q_up (q_up μ 1 0 w') 1 1 h') 1 2 (q_tm w' h')) 4 4 196 (-2000000000)) 12 0 3 0) 21 0 10 0) 24 10 196 (-2000000000)) 0 8 0) 85 0 0) 85 2 w') 85 3 h') 86 0 576 (-2000000000)) 88 0 3 0) 94 0 90 0) 85 1 0) 21 b = 0 := fun b b0 b1 => by
      rw [u_app, if_neg (by omega), u_fill, if_neg (by omega), u_fill, if_neg (by omega), u_fill, if_neg (by omega), u_app, if_neg (by omega), u_app, if_neg (by omega), u_app, if_neg (by omega), u_app, if_neg (by omega), u_rows, if_neg (by omega), u_fill, if_pos (by omega)]
    have v24 : ∀ b j : Int, 0 ≤ b → b < 10 → 0 ≤ j → j < 196 → (q_up (q_fill (q_fill (q_fill (q_up (q_up (q_up (q_up (q_rows (q_fill (q_fill (q_rows (q_up (q_up (q_up μ 1 0 w') 1 1 h') 1 2 (q_tm w' h')) 4 4 196 (-2000000000)) 12 0 3 0) 21 0 10 0) 24 10 196 (-2000000000)) 0 8 0) 85 0 0) 85 2 w') 85 3 h') 86 0 576 (-2000000000)) 88 0 3 0) 94 0 90 0) 85 1 0) (24 + b) j = -2000000000 := fun b j b0 b1 j0 j1 => by
      rw [u_app, if_neg (by omega), u_fill, if_neg (by omega), u_fill, if_neg (by omega), u_fill, if_neg (by omega), u_app, if_neg (by omega), u_app, if_neg (by omega), u_app, if_neg (by omega), u_app, if_neg (by omega), u_rows, if_pos (by omega)]
    have v08 : (q_up (q_fill (q_fill (q_fill (q_up (q_up (q_up (q_up (q_rows (q_fill (q_fill (q_rows (q_up (q_up (q_up μ 1 0 w') 1 1 h') 1 2 (q_tm w' h')) 4 4 196 (-2000000000)) 12 0 3 0) 21 0 10 0) 24 10 196 (-2000000000)) 0 8 0) 85 0 0) 85 2 w') 85 3 h') 86 0 576 (-2000000000)) 88 0 3 0) 94 0 90 0) 85 1 0) 0 8 = 0 := by
      rw [u_app, if_neg (by omega), u_fill, if_neg (by omega), u_fill, if_neg (by omega), u_fill, if_neg (by omega), u_app, if_neg (by omega), u_app, if_neg (by omega), u_app, if_neg (by omega), u_app, if_pos (by omega)]
    have v852 : (q_up (q_fill (q_fill (q_fill (q_up (q_up (q_up (q_up (q_rows (q_fill (q_fill (q_rows (q_up (q_up (q_up μ 1 0 w') 1 1 h') 1 2 (q_tm w' h')) 4 4 196 (-2000000000)) 12 0 3 0) 21 0 10 0) 24 10 196 (-2000000000)) 0 8 0) 85 0 0) 85 2 w') 85 3 h') 86 0 576 (-2000000000)) 88 0 3 0) 94 0 90 0) 85 1 0) 85 2 = w' := by
      rw [u_app, if_neg (by omega), u_fill, if_neg (by omega), u_fill, if_neg (by omega), u_fill, if_neg (by omega), u_app, if_neg (by omega), u_app, if_pos (by omega)]
    have v853 : (q_up (q_fill (q_fill (q_fill (q_up (q_up (q_up (q_up (q_rows (q_fill (q_fill (q_rows (q_up (q_up (q_up μ 1 0 w') 1 1 h') 1 2 (q_tm w' h')) 4 4 196 (-2000000000)) 12 0 3 0) 21 0 10 0) 24 10 196 (-2000000000)) 0 8 0) 85 0 0) 85 2 w') 85 3 h') 86 0 576 (-2000000000)) 88 0 3 0) 94 0 90 0) 85 1 0) 85 3 = h' := by
      rw [u_app, if_neg (by omega), u_fill, if_neg (by omega), u_fill, if_neg (by omega), u_fill, if_neg (by omega), u_app, if_pos (by omega)]
    have v851 : (q_up (q_fill (q_fill (q_fill (q_up (q_up (q_up (q_up (q_rows (q_fill (q_fill (q_rows (q_up (q_up (q_up μ 1 0 w') 1 1 h') 1 2 (q_tm w' h')) 4 4 196 (-2000000000)) 12 0 3 0) 21 0 10 0) 24 10 196 (-2000000000)) 0 8 0) 85 0 0) 85 2 w') 85 3 h') 86 0 576 (-2000000000)) 88 0 3 0) 94 0 90 0) 85 1 0) 85 1 = 0 := by
      rw [u_app, if_pos (by omega)]
    have v86 : ∀ j : Int, 0 ≤ j → j < 576 → (q_up (q_fill (q_fill (q_fill (q_up (q_up (q_up (q_up (q_rows (q_fill (q_fill (q_rows (q_up (q_up (q_up μ 1 0 w') 1 1 h') 1 2 (q_tm w' h')) 4 4 196 (-2000000000)) 12 0 3 0) 21 0 10 0) 24 10 196 (-2000000000)) 0 8 0) 85 0 0) 85 2 w') 85 3 h') 86 0 576 (-2000000000)) 88 0 3 0) 94 0 90 0) 85 1 0) 86 j = -2000000000 := fun j j0 j1 => by
      rw [u_app, if_neg (by omega), u_fill, if_neg (by omega), u_fill, if_neg (by omega), u_fill, if_pos (by omega)]
    have v88 : ∀ j : Int, 0 ≤ j → j < 3 → (q_up (q_fill (q_fill (q_fill (q_up (q_up (q_up (q_up (q_rows (q_fill (q_fill (q_rows (q_up (q_up (q_up μ 1 0 w') 1 1 h') 1 2 (q_tm w' h')) 4 4 196 (-2000000000)) 12 0 3 0) 21 0 10 0) 24 10 196 (-2000000000)) 0 8 0) 85 0 0) 85 2 w') 85 3 h') 86 0 576 (-2000000000)) 88 0 3 0) 94 0 90 0) 85 1 0) 88 j = 0 := fun j j0 j1 => by
      rw [u_app, if_neg (by omega), u_fill, if_neg (by omega), u_fill, if_pos (by omega)]
    have v94 : ∀ j : Int, 0 ≤ j → j < 90 → (q_up (q_fill (q_fill (q_fill (q_up (q_up (q_up (q_up (q_rows (q_fill (q_fill (q_rows (q_up (q_up (q_up μ 1 0 w') 1 1 h') 1 2 (q_tm w' h')) 4 4 196 (-2000000000)) 12 0 3 0) 21 0 10 0) 24 10 196 (-2000000000)) 0 8 0) 85 0 0) 85 2 w') 85 3 h') 86 0 576 (-2000000000)) 88 0 3 0) 94 0 90 0) 85 1 0) 94 j = 0 := fun j j0 j1 => by
      rw [u_app, if_neg (by omega), u_fill, if_pos (by omega)]
    have v86n : ∀ j : Int, j < 0 ∨ 576 ≤ j → (q_up (q_fill (q_fill (q_fill (q_up (q_up (q_up (q_up (q_rows (q_fill (q_fill (q_rows (q_up (q_up (q_up μ 1 0 w') 1 1 h') 1 2 (q_tm w' h')) 4 4 196 (-2000000000)) 12 0 3 0) 21 0 10 0) 24 10 196 (-2000000000)) 0 8 0) 85 0 0) 85 2 w') 85 3 h') 86 0 576 (-2000000000)) 88 0 3 0) 94 0 90 0) 85 1 0) 86 j = μ 86 j := fun j jq => by
      rw [u_app, if_neg (by omega), u_fill, if_neg (by omega), u_fill, if_neg (by omega), u_fill, if_neg (by omega), u_app, if_neg (by omega), u_app, if_neg (by omega), u_app, if_neg (by omega), u_app, if_neg (by omega), u_rows, if_neg (by omega), u_fill, if_neg (by omega), u_fill, if_neg (by omega), u_rows, if_neg (by omega), u_app, if_neg (by omega), u_app, if_neg (by omega), u_app, if_neg (by omega)]
    have v88n : ∀ j : Int, j < 0 ∨ 3 ≤ j → (q_up (q_fill (q_fill (q_fill (q_up (q_up (q_up (q_up (q_rows (q_fill (q_fill (q_rows (q_up (q_up (q_up μ 1 0 w') 1 1 h') 1 2 (q_tm w' h')) 4 4 196 (-2000000000)) 12 0 3 0) 21 0 10 0) 24 10 196 (-2000000000)) 0 8 0) 85 0 0) 85 2 w') 85 3 h') 86 0 576 (-2000000000)) 88 0 3 0) 94 0 90 0) 85 1 0) 88 j = μ 88 j := fun j jq => by
      rw [u_app, if_neg (by omega), u_fill, if_neg (by omega), u_fill, if_neg (by omega), u_fill, if_neg (by omega), u_app, if_neg (by omega), u_app, if_neg (by omega), u_app, if_neg (by omega), u_app, if_neg (by omega), u_rows, if_neg (by omega), u_fill, if_neg (by omega), u_fill, if_neg (by omega), u_rows, if_neg (by omega), u_app, if_neg (by omega), u_app, if_neg (by omega), u_app, if_neg (by omega)]
    have v94n : ∀ j : Int, j < 0 ∨ 90 ≤ j → (q_up (q_fill (q_fill (q_fill (q_up (q_up (q_up (q_up (q_rows (q_fill (q_fill (q_rows (q_up (q_up (q_up μ 1 0 w') 1 1 h') 1 2 (q_tm w' h')) 4 4 196 (-2000000000)) 12 0 3 0) 21 0 10 0) 24 10 196 (-2000000000)) 0 8 0) 85 0 0) 85 2 w') 85 3 h') 86 0 576 (-2000000000)) 88 0 3 0) 94 0 90 0) 85 1 0) 94 j = μ 94 j := fun j jq => by
      rw [u_app, if_neg (by omega), u_fill, if_neg (by omega), u_fill, if_neg (by omega), u_fill, if_neg (by omega), u_app, if_neg (by omega), u_app, if_neg (by omega), u_app, if_neg (by omega), u_app, if_neg (by omega), u_rows, if_neg (by omega), u_fill, if_neg (by omega), u_fill, if_neg (by omega), u_rows, if_neg (by omega), u_app, if_neg (by omega), u_app, if_neg (by omega), u_app, if_neg (by omega)]
    generalize (q_up (q_fill (q_fill (q_fill (q_up (q_up (q_up (q_up (q_rows (q_fill (q_fill (q_rows (q_up (q_up (q_up μ 1 0 w') 1 1 h') 1 2 (q_tm w' h')) 4 4 196 (-2000000000)) 12 0 3 0) 21 0 10 0) 24 10 196 (-2000000000)) 0 8 0) 85 0 0) 85 2 w') 85 3 h') 86 0 576 (-2000000000)) 88 0 3 0) 94 0 90 0) 85 1 0) = ν at e v10 v11 v12 v4 v12k v21 v24 v08 v852 v853 v851 v86 v88 v94 v86n v88n v94n
    have ep : ∀ x y : Int, c_p x y = (y + 1) * 14 + x + 1 := fun _ _ => rfl
    have f : ∀ a j : Int, (a = 0 ∧ 5 ≤ j ∧ j ≤ 7) ∨ a = 13 ∨ a = 14 ∨ a = 20 ∨ a = 22 ∨ a = 36 ∨ (39 ≤ a ∧ a ≤ 84) ∨ (a = 85 ∧ 4 ≤ j) ∨ a = 87 ∨ (89 ≤ a ∧ a ≤ 93) ∨ a = 104 ∨ a = 105 → ν a j = μ a j := fun a j q => e a j (by omega) (by omega) (by omega) (by omega) (by omega) (by omega) (by omega) (by omega) (by omega) (by omega)
    have nb : ∀ (b : Int) (t : Nat), 0 ≤ b → b < 10 → ¬ q_bit (ν 21 b) t = true := fun b t b0 b1 q9 => by
      rw [v21 b b0 b1, bt_0] at q9
      cases q9
    refine ⟨by rw [f 85 14 (by omega)]; omega, P, Q, w', h', n, ⟨?_, ⟨fun i i0 i1 => ⟨fun u v u0 u1 v0 v1 _ => ?_, fun u v huv => ?_⟩, fun s u v s0 s1 huv => ?_⟩, ⟨fun b b0 b1 => ?_, fun b t b0 b1 q9 => absurd q9 (nb b t b0 b1), fun b k t u b0 b1 q9 => absurd q9 (nb b t b0 (by omega))⟩, fun b x y b0 b1 hxy st => ?_⟩, ⟨⟨?_, ?_, a3, a4⟩, ⟨?_, ?_, v852, v853⟩, ⟨?_, ?_⟩, ⟨v08.trans v851.symm, by rw [v851]; decide⟩, ?_, fun j j0 j1 => ?_, fun j q => ?_⟩, ⟨fun s x y b0 b1 b2 b3 b4 b5 => ?_, fun s u v b0 b1 b2 b3 b4 b5 b6 => ?_, fun j => ⟨?_, ?_⟩, fun j => ?_, fun k b0 b1 => ⟨?_, fun q9 => ?_⟩⟩, j_t_cg (fun a j q => f a j (by omega)) k4, j_p_jk hP a3 hn.2 (fun a j q => f a j (by omega)) k5, ⟨fun b t b0 b1 t0 t1 => ?_, fun j => ?_⟩⟩
    · obtain ⟨hP, h5, hd, ew, eh, et, hs, hn, hr⟩ := k1.1
      refine ⟨hP, (f 20 5 (by omega)).trans h5, by omega, v10, v11, v12, ?_, hn, fun b b0 b1 => ?_⟩
      · rw [c_sd, f 36 _ (by omega), f 36 _ (by omega), f 36 _ (by omega), f 36 _ (by omega)]
        exact hs
      · have := hr b b0 b1
        unfold c_ro at this ⊢
        have e1 : ∀ j : Int, ν (P + 3 + b) j = μ (P + 3 + b) j := fun j => f _ j (by omega)
        have e2 : ∀ j : Int, ν (P + 3 + b + 10) j = μ (P + 3 + b + 10) j := fun j => f _ j (by omega)
        simp only [e1, e2]
        exact this
    · have := ep u v
      exact v24 i _ i0 i1 (by omega) (by omega)
    · have := ep u v
      show m_vr (ν (24 + i) (c_p u v))
      rw [v24 i _ i0 i1 (by omega) (by omega)]
      exact Or.inl rfl
    · have := ep u v
      show m_vr (ν (4 + s) (c_p u v))
      rw [v4 s _ s0 s1 (by omega) (by omega)]
      exact Or.inl rfl
    · rw [v21 b b0 b1]
      exact q_mk_0
    · by_cases cw : n_wh (c_kM ν P b)
      · exact absurd (v21 b b0 (by omega)) (st.1 cw)
      · exact absurd (st.2 cw) (nb b _ b0 (by omega))
    · rw [f 0 5 (by omega)]; exact a1
    · rw [f 0 6 (by omega)]; exact a2
    · rw [f P 2 (by omega)]; exact a5
    · rw [f 85 7 (by omega)]; exact a6
    · rw [f 0 7 (by omega), f 85 36 (by omega)]; exact a9
    · rw [f 85 36 (by omega)]; exact a10
    · rw [f 20 6 (by omega), f 85 14 (by omega)]; exact a13
    · rw [f 22 j (by omega)]; exact a14 j j0 j1
    · rw [f 104 j (by omega)]; exact a15 j q
    · have := ep x y
      rw [v4 s _ b0 b1 (by omega) (by omega), v86 _ (by omega) (by omega)]
    · have := ep u v
      exact v4 s _ b0 b1 (by omega) (by omega)
    · by_cases c9 : 0 ≤ j ∧ j < 576
      · rw [v86 j c9.1 c9.2]; decide
      · rw [v86n j (by omega)]; exact (s3 j).1
    · rw [f 87 j (by omega)]; exact (s3 j).2
    · by_cases c9 : 0 ≤ j ∧ j < 3
      · rw [v88 j c9.1 c9.2]; exact Or.inl rfl
      · rw [v88n j (by omega)]; exact s4 j
    · rw [v12k k b0 b1, v88 k b0 b1]
    · rw [v88 k b0 b1] at q9
      omega
    · rw [v94 _ (by omega) (by omega)]
      exact (q_bf (nb b _ b0 b1)).symm
    · by_cases c9 : 0 ≤ j ∧ j < 90
      · rw [v94 j c9.1 c9.2]; exact Or.inl rfl
      · rw [v94n j (by omega)]; exact k6.2 j
  · rw [if_neg q]
    refine ⟨-1, rfl, by decide, ?_⟩
    show sp_X11_size [.inl h', .inl w', .inr (.inr 85)] _ _
    rw [sp_X11_size_e, if_neg q]
    exact ⟨rfl, ⟨hw, hh⟩, rfl, J_no (by decide) hJ⟩

