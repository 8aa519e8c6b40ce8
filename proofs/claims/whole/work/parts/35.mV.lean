/-! values: they depend on the cells of the boards named, and stay within -/
theorem m_wk_cg {w h : Int} {A A' B B' : Int → Int → Int} (hA : ∀ u v : Int, m_in w h u v → A u v = A' u v) (hB : ∀ u v : Int, m_in w h u v → B u v = B' u v) : ∀ (n : Nat) (x y c : Int), m_wk w h A B n x y c → m_wk w h A' B' n x y c
  | 0, x, y, c, hw => by
    obtain ⟨h1, h2, h3⟩ := hw
    refine ⟨h1, ?_, h3⟩
    show ¬ B' x y = -2000000000 ∧ ¬ A' x y = -2000000000 ∧ 0 < A' x y
    rw [← hA x y h1, ← hB x y h1]
    exact h2
  | n + 1, x, y, c, hw => by
    obtain ⟨u, v, c', h1, h2, h3, h4, h5⟩ := hw
    refine ⟨u, v, c', m_wk_cg hA hB n u v c' h1, h2, h3, ?_, ?_⟩
    · rw [← hB x y h3]; exact h4
    · show c = c' + (if B' x y < 0 then 0 else B' x y)
      rw [← hB x y h3]; exact h5
theorem m_way_cg {w h : Int} {A A' B B' : Int → Int → Int} (hA : ∀ u v : Int, m_in w h u v → A u v = A' u v) (hB : ∀ u v : Int, m_in w h u v → B u v = B' u v) (x y : Int) : m_way w h A B x y = m_way w h A' B' x y := by
  have e : m_wk w h A B = m_wk w h A' B' := by
    funext n x y c
    exact propext ⟨m_wk_cg hA hB n x y c, m_wk_cg (fun u v q => (hA u v q).symm) (fun u v q => (hB u v q).symm) n x y c⟩
  unfold m_way m_far
  rw [e]
theorem m_itr_cg {w h : Int} {A A' : Int → Int → Int} (hd : m_dim w h) (hA : ∀ u v : Int, m_in w h u v → A u v = A' u v) : ∀ (n : Nat) (k : Int), m_kv w h A k → m_itr (m_dk w h A) n k = m_itr (m_dk w h A') n k
  | 0, _, _ => rfl
  | n + 1, k, hk => by
    have e : m_dk w h A k = m_dk w h A' k := m_dn_cg hA hk.2.1
    show (if k = -1 then -1 else m_itr (m_dk w h A) n (m_dk w h A k)) = (if k = -1 then -1 else m_itr (m_dk w h A') n (m_dk w h A' k))
    rw [← e]
    rcases m_dk_ok (A := A) (k := k) hd with q | ⟨q, -⟩
    · rw [q, m_itr_m1, m_itr_m1]
    · rw [m_itr_cg hd hA n _ q]
theorem m_flow_cg {w h : Int} {A A' : Int → Int → Int} (hd : m_dim w h) (hA : ∀ u v : Int, m_in w h u v → A u v = A' u v) {x y : Int} (hxy : m_in w h x y) : m_flow w h A x y = m_flow w h A' x y := by
  unfold m_flow
  rw [hA x y hxy]
  congr 1
  refine m_sm_cg _ _ (fun v v1 v2 => m_sm_cg _ _ (fun u u1 u2 => ?_))
  show m_hit w h A u v (12 * y + x) = m_hit w h A' u v (12 * y + x)
  unfold m_hit
  have huv : m_in w h u v := by omega
  rw [hA u v huv]
  split
  · rfl
  · rename_i c
    have q1 : (12 * v + u) % 12 = u := by omega
    have q2 : (12 * v + u) / 12 = v := by omega
    have hk : m_kv w h A (12 * v + u) := ⟨by omega, by rw [q1, q2]; exact huv, by rw [q1, q2, hA u v huv]; exact c⟩
    refine m_ind_c ⟨?_, ?_⟩
    · rintro ⟨n, e⟩
      exact ⟨n, by rw [← m_itr_cg hd hA n _ hk]; exact e⟩
    · rintro ⟨n, e⟩
      exact ⟨n, by rw [m_itr_cg hd hA n _ hk]; exact e⟩
theorem m_val_cg {w h kind how num : Int} {sh sh' A A' B B' C C' : Int → Int → Int} {x y : Int} (hd : m_dim w h) (hxy : m_in w h x y) (hs : ∀ u v : Int, m_in w h u v → sh u v = sh' u v) (hA : ¬ kind = 0 → ∀ u v : Int, m_in w h u v → A u v = A' u v) (hB : ¬ kind = 0 → ¬ kind = 9 → ¬ kind = 10 → ¬ kind = 12 → ∀ u v : Int, m_in w h u v → B u v = B' u v) (hC : kind = 8 → ∀ u v : Int, m_in w h u v → C u v = C' u v) : m_val w h kind how num sh A B C x y = m_val w h kind how num sh' A' B' C' x y := by
  unfold m_val
  by_cases c7 : kind = 7
  · rw [if_pos c7, if_pos c7]
    exact m_way_cg (hA (by omega)) (hB (by omega) (by omega) (by omega) (by omega)) x y
  · rw [if_neg c7, if_neg c7]
    by_cases c12 : kind = 12
    · rw [if_pos c12, if_pos c12]
      exact m_flow_cg hd (hA (by omega)) hxy
    · rw [if_neg c12, if_neg c12]
      exact m_F_cg hd hxy hs hA hB hC c12
theorem m_kept_vr (v : Int) : m_vr (q_kept v) := by
  unfold q_kept
  split <;> omega
theorem m_trr_tok {f : Int → Int → Int} {u0 : Int} {k : Nat} (hf : ∀ u v, m_vr (f u v)) : ∀ (d : Nat) (v n : Int) (s : QT), m_tok n s → m_tok (n + d * k) (m_trr f u0 k d v s)
  | 0, v, n, s, h => by
    rw [show n + ((0 : Nat) : Int) * (k : Int) = n by simp]
    exact h
  | d + 1, v, n, s, h => by
    have h1 := m_tr_tok (f := fun u => f u v) (fun u => hf u v) k u0 n s h
    have := m_trr_tok (u0 := u0) (k := k) hf d (v + 1) (n + k) _ h1
    rw [show n + ((d + 1 : Nat) : Int) * (k : Int) = n + (k : Int) + (d : Int) * (k : Int) by rw [show ((d + 1 : Nat) : Int) = (d : Int) + 1 by omega, Int.add_mul, Int.one_mul]; omega]
    exact this
theorem m_ans_vr {how n : Int} {s : QT} (h : m_tok n s) (hn : n ≤ 1000) : m_vr (m_ans how s) := by
  unfold m_tok at h
  unfold m_ans q_taken
  split
  · omega
  · split
    · omega
    · exact m_kept_vr _
theorem m_sm_01 {g : Int → Int} (hg : ∀ i, 0 ≤ g i ∧ g i ≤ 1) (d : Nat) (u : Int) : 0 ≤ m_sm g d u ∧ m_sm g d u ≤ d := by
  have := m_sm_le (g := g) (M := 1) (by omega) d u (fun i _ _ => hg i)
  omega
theorem m_hit_01 (w h : Int) (A : Int → Int → Int) (u v j : Int) : 0 ≤ m_hit w h A u v j ∧ m_hit w h A u v j ≤ 1 := by
  unfold m_hit
  split
  · omega
  · by_cases c : ∃ n, m_itr (m_dk w h A) n (12 * v + u) = j
    · rw [m_ind_t c]; omega
    · rw [m_ind_f c]; omega
theorem m_flow_vr {w h : Int} {A : Int → Int → Int} (hd : m_dim w h) (x y : Int) : m_vr (m_flow w h A x y) := by
  unfold m_flow
  split
  · omega
  · have h1 : ∀ v : Int, 0 ≤ m_sm (fun u => m_hit w h A u v (12 * y + x)) w.toNat 0 ∧ m_sm (fun u => m_hit w h A u v (12 * y + x)) w.toNat 0 ≤ 12 := fun v => by
      have := m_sm_01 (g := fun u => m_hit w h A u v (12 * y + x)) (fun u => m_hit_01 w h A u v _) w.toNat 0
      omega
    have := m_sm_le (g := fun v => m_sm (fun u => m_hit w h A u v (12 * y + x)) w.toNat 0) (M := 12) (by omega) h.toNat 0 (fun i _ _ => h1 i)
    omega
theorem m_val_vr {w h kind how num : Int} {sh A B C : Int → Int → Int} {x y : Int} (hd : m_dim w h) (hxy : m_in w h x y) (h9 : kind = 9 → m_vr num) (h10 : kind = 10 → 1 ≤ num ∧ num ≤ 3) (hs : kind = 0 → ∀ u v : Int, m_in w h u v → m_vr (sh u v)) (hA : ¬ kind = 0 → ∀ u v : Int, m_in w h u v → m_vr (A u v)) (hB : ¬ kind = 0 → ¬ kind = 9 → ¬ kind = 10 → ¬ kind = 12 → ∀ u v : Int, m_in w h u v → m_vr (B u v)) (hC : kind = 8 → ∀ u v : Int, m_in w h u v → m_vr (C u v)) : m_vr (m_val w h kind how num sh A B C x y) := by
  unfold m_val
  by_cases c7 : kind = 7
  · rw [if_pos c7]
    unfold m_way
    split
    · omega
    · exact m_kept_vr _
  · rw [if_neg c7]
    by_cases c12 : kind = 12
    · rw [if_pos c12]
      exact m_flow_vr hd x y
    · rw [if_neg c12]
      unfold m_F
      by_cases c0 : kind = 0
      · rw [if_pos c0]; exact hs c0 x y hxy
      · rw [if_neg c0]
        have hA := hA c0
        by_cases c8 : kind = 8
        · rw [if_pos c8]
          split
          · omega
          · split
            · exact hB c0 (by omega) (by omega) c12 x y hxy
            · exact hC c8 x y hxy
        · rw [if_neg c8]
          by_cases c9 : kind = 9
          · rw [if_pos c9]
            split
            · exact h9 c9
            · exact hA x y hxy
          · rw [if_neg c9]
            by_cases c10 : kind = 10
            · rw [if_pos c10]
              have := h10 c10
              unfold m_near9
              have hk : ((2 * num + 1).toNat : Int) ≤ 7 := by omega
              have hk2 : ((2 * num + 1).toNat : Int) * ((2 * num + 1).toNat : Int) ≤ 7 * 7 := Int.mul_le_mul hk hk (by omega) (by omega)
              exact m_ans_vr (m_trr_tok (fun u v => by
                split
                · exact hA u v (by assumption)
                · exact Or.inl rfl) _ _ 0 _ m_tok_0) (by omega)
            · rw [if_neg c10]
              have hB := hB c0 c9 c10 c12
              by_cases c11 : kind = 11
              · rw [if_pos c11]
                unfold m_zone
                split
                · omega
                · have hw : (w.toNat : Int) ≤ 12 := by omega
                  have hh : (h.toNat : Int) ≤ 12 := by omega
                  have hk2 : (h.toNat : Int) * (w.toNat : Int) ≤ 12 * 12 := Int.mul_le_mul hh hw (by omega) (by omega)
                  rw [m_trr_cg (g := fun u v => if m_in w h u v ∧ B u v = B x y then A u v else -2000000000) _ _ _ (fun i j a b c d => by
                    have : m_in w h i j := by omega
                    by_cases e : B i j = B x y
                    · rw [if_pos e, if_pos ⟨this, e⟩]
                    · rw [if_neg e, if_neg (fun q => e q.2)])]
                  exact m_ans_vr (m_trr_tok (fun u v => by
                    split
                    · rename_i q; exact hA u v q.1
                    · exact Or.inl rfl) _ _ 0 _ m_tok_0) (by omega)
              · rw [if_neg c11]
                have a1 := hA x y hxy
                have b1 := hB x y hxy
                unfold q_cellOf
                (repeat' split) <;> first | omega | exact m_kept_vr _
/-- the value of each cell of each board -/
noncomputable def m_V (w h : Int) (kd hw rn : Int → Int) (of : Int → Int → Int) (sh : Int → Int → Int → Int) : Nat → Int → Int → Int → Int
  | 0 => fun _ _ _ => -2000000000
  | n + 1 => fun b x y => if b = (n : Int) then m_val w h (kd n) (hw n) (rn n) (sh (rn n)) (m_V w h kd hw rn of sh n (of n 0)) (m_V w h kd hw rn of sh n (of n 1)) (m_V w h kd hw rn of sh n (of n 2)) x y else m_V w h kd hw rn of sh n b x y
theorem m_V_up {w h : Int} {kd hw rn : Int → Int} {of : Int → Int → Int} {sh : Int → Int → Int → Int} {b : Int} : ∀ (d n : Nat), b < (n : Int) → m_V w h kd hw rn of sh (n + d) b = m_V w h kd hw rn of sh n b
  | 0, _, _ => rfl
  | d + 1, n, hb => by
    have e : m_V w h kd hw rn of sh (n + d + 1) b = m_V w h kd hw rn of sh (n + d) b := by
      funext x y
      exact if_neg (by omega)
    rw [show n + (d + 1) = n + d + 1 by omega, e]
    exact m_V_up d n hb

