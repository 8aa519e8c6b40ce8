/-! values: they depend on what their tiles need alone -/
theorem n_tl {w h x y : Int} (hd : m_dim w h) (hxy : m_in w h x y) : m_tl w h (((c_ti x y).toNat : Nat) : Int) := by
  have e := c_ti_e x y
  rw [show (((c_ti x y).toNat : Nat) : Int) = y / 4 * 3 + x / 4 by omega]
  omega
theorem n_st_wh {w h k x y u v : Int} (hd : m_dim w h) (huv : m_in w h u v) (hk : n_wh k) : n_st w h k (c_ti x y).toNat (c_ti u v).toNat := ⟨n_tl hd huv, Or.inl hk⟩
theorem n_st_eq {w h k x y : Int} (hd : m_dim w h) (hxy : m_in w h x y) (hk : ¬ n_wh k) (h10 : ¬ k = 10) : n_st w h k (c_ti x y).toNat (c_ti x y).toNat := ⟨n_tl hd hxy, Or.inr (Or.inr ⟨hk, h10, rfl⟩)⟩
theorem n_st_nr {w h x y u v r : Int} (hd : m_dim w h) (hxy : m_in w h x y) (huv : m_in w h u v) (hr : r ≤ 3) (h1 : x - r ≤ u) (h2 : u ≤ x + r) (h3 : y - r ≤ v) (h4 : v ≤ y + r) : n_st w h 10 (c_ti x y).toNat (c_ti u v).toNat := by
  have e1 := c_ti_e x y
  have e2 := c_ti_e u v
  refine ⟨n_tl hd huv, Or.inr (Or.inl ⟨rfl, ?_, ?_⟩)⟩
  · rw [show (((c_ti x y).toNat : Nat) : Int) = y / 4 * 3 + x / 4 by omega, show (((c_ti u v).toNat : Nat) : Int) = v / 4 * 3 + u / 4 by omega]
    omega
  · rw [show (((c_ti x y).toNat : Nat) : Int) = y / 4 * 3 + x / 4 by omega, show (((c_ti u v).toNat : Nat) : Int) = v / 4 * 3 + u / 4 by omega]
    omega
theorem m_val_loc {w h kind how num : Int} {sh sh' A A' B B' C C' : Int → Int → Int} {x y : Int} (hd : m_dim w h) (hxy : m_in w h x y) (hn : kind = 10 → 1 ≤ num ∧ num ≤ 3) (hs : kind = 0 → sh x y = sh' x y) (hA : ¬ kind = 0 → ∀ u v : Int, m_in w h u v → n_st w h kind (c_ti x y).toNat (c_ti u v).toNat → A u v = A' u v) (hB : ¬ kind = 0 → ¬ kind = 9 → ¬ kind = 10 → ¬ kind = 12 → ∀ u v : Int, m_in w h u v → n_st w h kind (c_ti x y).toNat (c_ti u v).toNat → B u v = B' u v) (hC : kind = 8 → ∀ u v : Int, m_in w h u v → n_st w h kind (c_ti x y).toNat (c_ti u v).toNat → C u v = C' u v) : m_val w h kind how num sh A B C x y = m_val w h kind how num sh' A' B' C' x y := by
  by_cases cw : n_wh kind
  · have e : m_val w h kind how num sh A B C x y = m_val w h kind how num sh' A B C x y := by
      unfold m_val m_F
      rw [if_neg (show ¬ kind = 0 by omega), if_neg (show ¬ kind = 0 by omega)]
    rw [e]
    exact m_val_cg hd hxy (fun _ _ _ => rfl) (fun c u v q => hA c u v q (n_st_wh hd q cw)) (fun c0 c1 c2 c3 u v q => hB c0 c1 c2 c3 u v q (n_st_wh hd q cw)) (fun c u v q => hC c u v q (n_st_wh hd q cw))
  · have c7 : ¬ kind = 7 := fun q => cw (Or.inl q)
    have c11 : ¬ kind = 11 := fun q => cw (Or.inr (Or.inl q))
    have c12 : ¬ kind = 12 := fun q => cw (Or.inr (Or.inr q))
    unfold m_val m_F
    rw [if_neg c7, if_neg c12, if_neg c7, if_neg c12]
    by_cases c0 : kind = 0
    · rw [if_pos c0, if_pos c0]
      exact hs c0
    · rw [if_neg c0, if_neg c0]
      by_cases c10 : kind = 10
      · rw [if_neg (by omega), if_neg (by omega), if_pos c10, if_neg (by omega), if_neg (by omega), if_pos c10]
        have := hn c10
        unfold m_near9
        congr 1
        refine m_trr_cg _ _ _ (fun i j a b c d => ?_)
        by_cases q : m_in w h i j
        · rw [if_pos q, if_pos q]
          refine hA c0 i j q ?_
          rw [c10]
          exact n_st_nr hd hxy q (r := num) (by omega) (by omega) (by omega) (by omega) (by omega)
        · rw [if_neg q, if_neg q]
      · have hst := n_st_eq hd hxy cw c10
        have eA := hA c0 x y hxy hst
        by_cases c8 : kind = 8
        · rw [if_pos c8, if_pos c8, eA, hB c0 (by omega) c10 c12 x y hxy hst, hC c8 x y hxy hst]
        · rw [if_neg c8, if_neg c8]
          by_cases c9 : kind = 9
          · rw [if_pos c9, if_pos c9, eA]
          · rw [if_neg c9, if_neg c9, if_neg c10, if_neg c10, if_neg c11, if_neg c11, eA, hB c0 c9 c10 c12 x y hxy hst]
/-- the value of a cell of any board -/
noncomputable abbrev n_V (w h : Int) (kd hw rn : Int → Int) (of : Int → Int → Int) (sh : Int → Int → Int → Int) : Int → Int → Int → Int := m_V w h kd hw rn of sh 10
theorem m_V_10 {w h : Int} {kd hw rn : Int → Int} {of : Int → Int → Int} {sh : Int → Int → Int → Int} {b : Int} {n : Nat} (hb : b < n) (hn : n ≤ 10) : m_V w h kd hw rn of sh n b = n_V w h kd hw rn of sh b := by
  have := m_V_up (w := w) (h := h) (kd := kd) (hw := hw) (rn := rn) (of := of) (sh := sh) (10 - n) n hb
  rw [show n + (10 - n) = 10 by omega] at this
  exact this.symm
theorem n_V_eq {w h : Int} {kd hw rn : Int → Int} {of : Int → Int → Int} {sh : Int → Int → Int → Int} {b x y : Int} (hd : m_dim w h) (b0 : 0 ≤ b) (b1 : b < 10) (ho : ∀ k : Int, 0 ≤ k → k < m_mn (kd b) → of b k < b) (hxy : m_in w h x y) : n_V w h kd hw rn of sh b x y = m_val w h (kd b) (hw b) (rn b) (sh (rn b)) (n_V w h kd hw rn of sh (of b 0)) (n_V w h kd hw rn of sh (of b 1)) (n_V w h kd hw rn of sh (of b 2)) x y := by
  rw [← m_V_10 (n := (b.toNat + 1)) (by omega) (by omega)]
  show (if b = ((b.toNat : Nat) : Int) then m_val w h (kd (b.toNat : Nat)) (hw (b.toNat : Nat)) (rn (b.toNat : Nat)) (sh (rn (b.toNat : Nat))) (m_V w h kd hw rn of sh b.toNat (of (b.toNat : Nat) 0)) (m_V w h kd hw rn of sh b.toNat (of (b.toNat : Nat) 1)) (m_V w h kd hw rn of sh b.toNat (of (b.toNat : Nat) 2)) x y else _) = _
  rw [if_pos (by omega), show ((b.toNat : Nat) : Int) = b by omega]
  refine m_val_cg hd hxy (fun _ _ _ => rfl) (fun c u v q => ?_) (fun c0 c1 c2 c3 u v q => ?_) (fun c u v q => ?_)
  · have := ho 0 (by omega) (mn_1 c)
    rw [m_V_10 (n := b.toNat) (by omega) (by omega)]
  · have := ho 1 (by omega) (mn_2 c0 c1 c2 c3)
    rw [m_V_10 (n := b.toNat) (by omega) (by omega)]
  · have := ho 2 (by omega) (mn_3 c)
    rw [m_V_10 (n := b.toNat) (by omega) (by omega)]

