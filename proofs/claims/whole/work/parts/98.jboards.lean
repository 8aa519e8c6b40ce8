/-! class and reference, call by call: boards -/
theorem q_b_1 {c : Prop} [Decidable c] (h : q_b c = 1) : c := Classical.byContradiction fun n => by
  rw [q_bf n] at h
  exact absurd h (by decide)
theorem sN_ok {T : Int → Int} {L lo hi : Int} {s : Int × Nat} (hs : s.1 = 0 ∨ s.1 = 1) (h : (m_sN T L lo hi s).1 = 0) : s.1 = 0 ∧ lo ≤ m_cd T L s.2 ∧ m_cd T L s.2 ≤ hi := by
  obtain ⟨h1, h2, -⟩ := m_ms_ok hs h
  have := q_b_1 h2
  exact ⟨h1, this.2⟩
theorem sH_ok {T : Int → Int} {L : Int} {s : Int × Nat} (hs : s.1 = 0 ∨ s.1 = 1) (h : (m_sH T L s).1 = 0) : s.1 = 0 ∧ ¬ m_hw T L s.2 = -1 := by
  obtain ⟨h1, h2, -⟩ := m_ms_ok hs h
  exact ⟨h1, q_b_1 h2⟩
theorem sM_ok {T : Int → Int} {L : Int} {nm : Int → Int} {s : Int × Nat} (hs : s.1 = 0 ∨ s.1 = 1) (h : (m_sM T L nm s).1 = 0) : s.1 = 0 ∧ ¬ nm (m_cd T L s.2) = -1 := by
  obtain ⟨h1, h2, -⟩ := m_ms_ok hs h
  exact ⟨h1, (q_b_1 h2).2⟩
theorem sN_01 {T : Int → Int} {L lo hi : Int} {s : Int × Nat} (hs : s.1 = 0 ∨ s.1 = 1) : (m_sN T L lo hi s).1 = 0 ∨ (m_sN T L lo hi s).1 = 1 := m_ms_01 hs
theorem sH_01 {T : Int → Int} {L : Int} {s : Int × Nat} (hs : s.1 = 0 ∨ s.1 = 1) : (m_sH T L s).1 = 0 ∨ (m_sH T L s).1 = 1 := m_ms_01 hs
theorem sM_01 {T : Int → Int} {L : Int} {nm : Int → Int} {s : Int × Nat} (hs : s.1 = 0 ∨ s.1 = 1) : (m_sM T L nm s).1 = 0 ∨ (m_sM T L nm s).1 = 1 := m_ms_01 hs
theorem sG_01 {T : Int → Int} {L : Int} {s : Int × Nat} (hs : s.1 = 0 ∨ s.1 = 1) : (m_sG T L s).1 = 0 ∨ (m_sG T L s).1 = 1 := by
  unfold m_sG
  split
  · exact Or.inl rfl
  · exact hs
theorem sG_ok {T : Int → Int} {L : Int} {s : Int × Nat} (h : (m_sG T L s).1 = 0) : s.1 = 0 := by
  unfold m_sG at h
  split at h
  · rename_i q; exact q.1
  · exact h
theorem hw_ok (T : Int → Int) (L : Int) (i : Nat) : m_hw T L i = -1 ∨ (m_hw T L i = 4 ∨ m_hw T L i = 5 ∨ m_hw T L i = 13 ∨ m_hw T L i = 14) := by
  unfold m_hw
  split
  · rename_i q; exact Or.inr q.2
  · exact Or.inl rfl
/-- a making that was read is in order -/
def mk_g (kd nu hw B : Int) (o : Int → Int) : Prop := (kd = 0 → 0 ≤ nu ∧ nu ≤ 3) ∧ (kd = 10 → 1 ≤ nu ∧ nu ≤ 3) ∧ (kd = 9 → m_vr nu) ∧ (kd = 10 ∨ kd = 11 → hw = 4 ∨ hw = 5 ∨ hw = 13 ∨ hw = 14) ∧ q_r nu ∧ q_r hw ∧ ∀ k : Int, 0 ≤ k → k < m_mn kd → 0 ≤ o k ∧ o k < B
theorem mk_ok {T : Int → Int} {L : Int} {nm : Int → Int} {kd B : Int} {s : Int × Nat} (hs : s.1 = 0 ∨ s.1 = 1) (hk : 0 ≤ kd ∧ kd ≤ 12) (hnm : ∀ j : Int, -1 ≤ nm j ∧ nm j < B) (h : (m_mk T L nm kd s).1.1 = 0) : mk_g kd (m_mk T L nm kd s).2.1 (m_mk T L nm kd s).2.2.1 B (m_mk T L nm kd s).2.2.2 := by
  have nn : ∀ j : Int, ¬ nm j = -1 → 0 ≤ nm j ∧ nm j < B := fun j q => by have := hnm j; omega
  unfold m_mk at h ⊢
  by_cases c0 : kd = 0
  · subst c0
    simp only [if_true] at h ⊢
    obtain ⟨-, h2⟩ := sN_ok hs h
    exact ⟨fun _ => h2, fun q => absurd q (by decide), fun q => absurd q (by decide), fun q => absurd q (by decide), by omega, by decide, fun k k0 k1 => by
      have e : m_mn 0 = 0 := rfl
      omega⟩
  · rw [if_neg c0] at h ⊢
    by_cases c10 : kd = 10
    · subst c10
      simp only [if_true] at h ⊢
      obtain ⟨h1, h2⟩ := sM_ok (sH_01 (sN_01 hs)) h
      obtain ⟨h3, h4⟩ := sH_ok (sN_01 hs) h1
      obtain ⟨h5, h6⟩ := sN_ok hs h3
      have hw := hw_ok T L (m_sN T L 1 3 s).2
      exact ⟨fun q => absurd q (by decide), fun _ => h6, fun q => absurd q (by decide), fun _ => by omega, by omega, by omega, fun k k0 k1 => nn _ h2⟩
    · rw [if_neg c10] at h ⊢
      by_cases c11 : kd = 11
      · subst c11
        simp only [if_true] at h ⊢
        obtain ⟨h1, h2⟩ := sM_ok (sM_01 (sH_01 hs)) h
        obtain ⟨h3, h4⟩ := sM_ok (sH_01 hs) h1
        obtain ⟨h5, h6⟩ := sH_ok hs h3
        have hw := hw_ok T L s.2
        refine ⟨fun q => absurd q (by decide), fun q => absurd q (by decide), fun q => absurd q (by decide), fun _ => by omega, by decide, by omega, fun k k0 k1 => ?_⟩
        dsimp only
        split
        · exact nn _ h4
        · exact nn _ h2
      · rw [if_neg c11] at h ⊢
        by_cases c8 : kd = 8
        · subst c8
          simp only [if_true] at h ⊢
          obtain ⟨h1, h2⟩ := sM_ok (sM_01 (sM_01 hs)) h
          obtain ⟨h3, h4⟩ := sM_ok (sM_01 hs) h1
          obtain ⟨h5, h6⟩ := sM_ok hs h3
          refine ⟨fun q => absurd q (by decide), fun q => absurd q (by decide), fun q => absurd q (by decide), fun q => absurd q (by decide), by decide, by decide, fun k k0 k1 => ?_⟩
          dsimp only
          split
          · exact nn _ h6
          · split
            · exact nn _ h4
            · exact nn _ h2
        · rw [if_neg c8] at h ⊢
          by_cases c9 : kd = 9
          · subst c9
            simp only [if_true] at h ⊢
            obtain ⟨h1, h2⟩ := sN_ok (sG_01 (sM_01 hs)) h
            obtain ⟨h3, h4⟩ := sM_ok hs (sG_ok h1)
            refine ⟨fun q => absurd q (by decide), fun q => absurd q (by decide), fun _ => ?_, fun q => absurd q (by decide), ?_, by decide, fun k k0 k1 => nn _ h4⟩
            · split <;> omega
            · split <;> omega
          · rw [if_neg c9] at h ⊢
            by_cases c12 : kd = 12
            · subst c12
              simp only [if_true] at h ⊢
              obtain ⟨h3, h4⟩ := sM_ok hs h
              exact ⟨fun q => absurd q (by decide), fun q => absurd q (by decide), fun q => absurd q (by decide), fun q => absurd q (by decide), by decide, by decide, fun k k0 k1 => nn _ h4⟩
            · rw [if_neg c12] at h ⊢
              obtain ⟨h1, h2⟩ := sM_ok (sM_01 hs) h
              obtain ⟨h3, h4⟩ := sM_ok hs h1
              refine ⟨fun q => absurd q c0, fun q => absurd q c10, fun q => absurd q c9, fun q => by rcases q with q | q; exact absurd q c10; exact absurd q c11, (by decide : q_r 0), (by decide : q_r (-1)), fun k k0 k1 => ?_⟩
              show 0 ≤ (if k = 0 then _ else _) ∧ (if k = 0 then _ else _) < B
              split
              · exact nn _ h4
              · exact nn _ h2
/-- each board of a text that was read is in order -/
theorem rs_ok {T : Int → Int} {L : Int} (ht : m_tp T L) {b : Nat} (h : (m_rs T L b).1 = 0) : (0 ≤ m_bk T L b ∧ m_bk T L b ≤ 12) ∧ mk_g (m_bk T L b) (m_bm T L b).2.1 (m_bm T L b).2.2.1 b (m_bm T L b).2.2.2 := by
  have h1 : (if (m_hd T L (m_bs T L b).2 b (m_bs T L b).1).1 = 1 then m_hd T L (m_bs T L b).2 b (m_bs T L b).1 else (m_mb T L (m_bs T L b).2 b (m_bs T L b).1).1).1 = 0 := h
  by_cases c : (m_hd T L (m_bs T L b).2 b (m_bs T L b).1).1 = 1
  · rw [if_pos c] at h1
    omega
  · rw [if_neg c] at h1
    have hs1 : (m_h1 T L (m_bs T L b).2 b (m_bs T L b).1).1 = 0 ∨ (m_h1 T L (m_bs T L b).2 b (m_bs T L b).1).1 = 1 := m_ms_01 (Or.inl rfl)
    have hs2 : (m_h2 T L (m_h1 T L (m_bs T L b).2 b (m_bs T L b).1)).1 = 0 ∨ (m_h2 T L (m_h1 T L (m_bs T L b).2 b (m_bs T L b).1)).1 = 1 := m_ms_01 hs1
    have hs3 : (m_hd T L (m_bs T L b).2 b (m_bs T L b).1).1 = 0 ∨ (m_hd T L (m_bs T L b).2 b (m_bs T L b).1).1 = 1 := m_ms_01 hs2
    have h0 : (m_hd T L (m_bs T L b).2 b (m_bs T L b).1).1 = 0 := by omega
    obtain ⟨-, h3, -⟩ := m_ms_ok hs2 h0
    have h4 : ¬ m_bk T L b = -1 := q_b_1 h3
    have h5 : -1 ≤ m_bk T L b ∧ m_bk T L b ≤ 12 := m_kw_b ht _
    have hk : 0 ≤ m_bk T L b ∧ m_bk T L b ≤ 12 := by omega
    exact ⟨hk, mk_ok hs3 hk (m_bs_r T L b) h1⟩
theorem rs_all {T : Int → Int} {L : Int} {n : Nat} (hr : m_run T L n) (hb : c_bok T L n) : ∀ b : Nat, b < n + 1 → (m_rs T L b).1 = 0 := fun b hb1 => by
  by_cases c : b = n
  · rw [c]; exact hb.1
  · exact (hr.1 b (by omega)).1
/-- behind a text with a fault -/
theorem bd_no {P Q w h n0 : Int} {μ ν1 ν : QM} {pl : Int} (hj : J9 P Q w h n0 μ) (hpl : q_r pl) (f1 : c_df μ Q ν1) (f2 : ∀ a j : Int, a < 85 → ν a j = q_up (q_up (q_up ν1 0 7 pl) 13 1 0) 0 8 (-6) a j) (f3 : ∀ a j : Int, 85 ≤ a → ¬ (a = 85 ∧ (j = 0 ∨ j = 1 ∨ j = 23 ∨ 31 ≤ j ∧ j ≤ 37)) → ¬ (99 ≤ a ∧ a ≤ 104) → ν a j = μ a j) (e104 : ∀ j : Int, j < 0 ∨ 26 ≤ j → ν 104 j = -1) (e31 : ν 85 31 = 0) (e36 : ν 85 36 = pl) (e1 : ν 85 1 = -6) : J9 P Q w h n0 ν := by
  obtain ⟨k1, ⟨⟨a1, a2, a3, a4⟩, ⟨a5, a6, a7, a8⟩, -, -, a13, a14, a15⟩, k3, ⟨t1, t2, t3⟩, ⟨p1, p2⟩, k6⟩ := hj
  have hP := k1.1.1
  have hn := k1.1.2.2.2.2.2.2.2.1
  have u : ∀ a j : Int, a < 85 → ¬ (a = 0 ∧ (j = 7 ∨ j = 8)) → ¬ (a = 13 ∧ j = 1) → ν a j = ν1 a j := fun a j q n1 n2 => by rw [f2 a j q, u_app, if_neg (by omega), u_app, if_neg n2, u_app, if_neg (by omega)]
  have g : ∀ a j : Int, (a = 0 ∧ 5 ≤ j ∧ j ≤ 6) ∨ a = 1 ∨ (4 ≤ a ∧ a < 8) ∨ (9 ≤ a ∧ a ≤ 12) ∨ a = 14 ∨ (20 ≤ a ∧ a < 39) ∨ (P ≤ a ∧ a ≤ P + 22) → ν a j = μ a j := fun a j q => (u a j (by omega) (by omega) (by omega)).trans (f1.1 a j (by omega) (by omega) (by omega))
  have g2 : ∀ a j : Int, (86 ≤ a ∧ a ≤ 94) ∨ a = 105 ∨ (a = 85 ∧ (j = 2 ∨ j = 3 ∨ j = 7 ∨ j = 14)) → ν a j = μ a j := fun a j q => f3 a j (by omega) (by omega) (by omega)
  refine ⟨c_ok_cg (fun a j q => g a j (by omega)) k1, ⟨⟨?_, ?_, a3, a4⟩, ⟨?_, ?_, ?_, ?_⟩, ⟨?_, ?_⟩, ⟨?_, ?_⟩, ?_, fun j j0 j1 => ?_, e104⟩, j_s_jk (fun a j q => ?_) k3, ⟨?_, ?_, fun j => ?_⟩, ⟨fun b b0 b1 => ?_, fun i k i0 i1 k0 k1 => ⟨?_, ?_⟩⟩, j_f_cg (fun a j q => ?_) k6⟩
  · rw [g 0 5 (by omega)]; exact a1
  · rw [g 0 6 (by omega)]; exact a2
  · rw [g P 2 (by omega)]; exact a5
  · rw [g2 85 7 (by omega)]; exact a6
  · rw [g2 85 2 (by omega)]; exact a7
  · rw [g2 85 3 (by omega)]; exact a8
  · rw [e36, f2 0 7 (by omega), u_app, if_neg (by omega), u_app, if_neg (by omega), u_app, if_pos ⟨rfl, rfl⟩]
  · rw [e36]; exact hpl
  · rw [e1, f2 0 8 (by omega), u_app, if_pos ⟨rfl, rfl⟩]
  · rw [e1]; decide
  · rw [g 20 6 (by omega), g2 85 14 (by omega)]; exact a13
  · rw [g 22 j (by omega)]; exact a14 j j0 j1
  · by_cases c : a < 85
    · exact g a j (by omega)
    · exact g2 a j (by omega)
  · rw [e31, f2 13 1 (by omega), u_app, if_neg (by omega), u_app, if_pos ⟨rfl, rfl⟩]
  · rw [e31]
    exact ⟨by decide, fun j j0 j1 => by omega⟩
  · rw [g 14 j (by omega), g2 105 j (by omega)]; exact t3 j
  · obtain ⟨q1, q2, q3, q4, q5, q6⟩ := p1 b b0 b1
    refine ⟨?_, ?_, ?_, fun q => ?_, ?_, fun k k0 k1 => ?_⟩
    · rw [g _ _ (by omega), g2 89 _ (by omega)]; exact q1
    · rw [g _ _ (by omega), g2 91 _ (by omega)]; exact q2
    · rw [g _ _ (by omega), g2 93 _ (by omega)]; exact q3
    · rw [g2 89 _ (by omega)] at q
      rw [g _ _ (by omega), g2 90 _ (by omega)]; exact q4 q
    · rw [g2 90 _ (by omega)]; exact q5
    · rw [g2 93 _ (by omega)] at k1
      rw [g _ _ (by omega), g2 92 _ (by omega)]; exact q6 k k0 k1
  · rw [g (P + 13 + i) _ (by omega)]
    exact (p2 i k i0 i1 k0 k1).1
  · rw [u (Q + 13 + i) k (by omega) (by omega) (by omega)]
    rcases f1.2 i k i0 i1 with q | q
    · rw [q]; exact (p2 i k i0 i1 k0 k1).2
    · exact q
  · rcases q with q | q
    · exact g a j (by omega)
    · exact g2 a j (by omega)
/-- behind a text that was read -/
theorem bd_yes {P Q w h n0 : Int} {μ ν1 ν : QM} {T : Int → Int} {L : Int} {n : Nat} (hj : J9 P Q w h n0 μ) (ht : m_tp T L) (hn9 : n + 1 ≤ 10) (hg : ∀ b : Nat, b < n + 1 → (m_rs T L b).1 = 0) (f1 : c_df μ Q ν1) (e2 : ν1 Q 2 = n + 1) (hrs : c_rs T L Q (n + 1) ν1) (f2 : ∀ a j : Int, a < 85 → ν a j = q_up (q_fill (q_up (q_up (q_up (q_up (q_up ν1 0 7 (-1)) 13 1 0) 0 5 Q) 0 6 P) 20 5 Q) 21 0 10 0) 0 8 0 a j) (f3 : ∀ a j : Int, 85 ≤ a → ¬ (a = 85 ∧ (j = 0 ∨ j = 1 ∨ j = 7 ∨ j = 23 ∨ 31 ≤ j ∧ j ≤ 37)) → ¬ (89 ≤ a ∧ a ≤ 94) → ¬ (99 ≤ a ∧ a ≤ 104) → ν a j = μ a j) (e104 : ∀ j : Int, j < 0 ∨ 26 ≤ j → ν 104 j = -1) (e31 : ν 85 31 = 0) (e36 : ν 85 36 = -1) (e1 : ν 85 1 = 0) (e7 : ν 85 7 = n + 1) (hbt : m_bt T L 89 90 91 93 92 (n + 1) ν) (e94 : ∀ j : Int, ν 94 j = if 0 ≤ j ∧ j < 90 then 0 else μ 94 j) : J9 Q P w h (n + 1) ν := by
  obtain ⟨k1, ⟨⟨a1, a2, a3, a4⟩, ⟨a5, a6, a7, a8⟩, -, -, a13, a14, a15⟩, k3, ⟨t1, t2, t3⟩, ⟨p1, p2⟩, ⟨k6, k7⟩⟩ := hj
  obtain ⟨hP, h5, hd, ew, eh, et, hs, hn, hr⟩ := k1.1
  have u : ∀ a j : Int, a < 85 → ¬ a = 0 → ¬ (a = 13 ∧ j = 1) → ¬ (a = 20 ∧ j = 5) → ¬ a = 21 → ν a j = ν1 a j := fun a j q n1 n2 n3 n4 => by rw [f2 a j q, u_app, if_neg (by omega), u_fill, if_neg (by omega), u_app, if_neg n3, u_app, if_neg (by omega), u_app, if_neg (by omega), u_app, if_neg n2, u_app, if_neg (by omega)]
  have g : ∀ a j : Int, a = 1 ∨ (4 ≤ a ∧ a < 8) ∨ (9 ≤ a ∧ a ≤ 12) ∨ a = 14 ∨ a = 22 ∨ (a = 20 ∧ j = 6) ∨ (24 ≤ a ∧ a < 39) ∨ (P ≤ a ∧ a ≤ P + 22) → ν a j = μ a j := fun a j q => (u a j (by omega) (by omega) (by omega) (by omega) (by omega)).trans (f1.1 a j (by omega) (by omega) (by omega))
  have g2 : ∀ a j : Int, (86 ≤ a ∧ a ≤ 88) ∨ a = 105 ∨ (a = 85 ∧ (j = 2 ∨ j = 3 ∨ j = 14)) → ν a j = μ a j := fun a j q => f3 a j (by omega) (by omega) (by omega) (by omega)
  have v21 : ∀ b : Int, 0 ≤ b → b < 10 → ν 21 b = 0 := fun b b0 b1 => by rw [f2 21 b (by omega), u_app, if_neg (by omega), u_fill, if_pos (by omega)]
  have nb : ∀ (b : Int) (t : Nat), 0 ≤ b → b < 10 → ¬ q_bit (ν 21 b) t = true := fun b t b0 b1 q9 => by
    rw [v21 b b0 b1, bt_0] at q9
    cases q9
  have uq : ∀ a j : Int, Q ≤ a → a ≤ Q + 22 → ν a j = ν1 a j := fun a j q0 q1 => u a j (by omega) (by omega) (by omega) (by omega) (by omega)
  have qn : ∀ i k : Int, 0 ≤ i → i < 10 → 0 ≤ k → k < 3 → 0 ≤ ν (Q + 13 + i) k ∧ ν (Q + 13 + i) k < 10 := fun i k i0 i1 k0 k1 => by
    rw [uq _ _ (by omega) (by omega)]
    rcases f1.2 i k i0 i1 with q | q
    · rw [q]; exact (p2 i k i0 i1 k0 k1).2
    · exact q
  have rw9 : ∀ b : Int, 0 ≤ b → b < n + 1 → ν (Q + 3 + b) 2 = m_bk T L b.toNat ∧ ν (Q + 3 + b) 4 = (m_bm T L b.toNat).2.1 ∧ (m_bk T L b.toNat = 10 ∨ m_bk T L b.toNat = 11 → ν (Q + 3 + b) 3 = (m_bm T L b.toNat).2.2.1) ∧ ν (Q + 3 + b) 1 = m_mn (m_bk T L b.toNat) ∧ ∀ k : Int, 0 ≤ k → k < m_mn (m_bk T L b.toNat) → ν (Q + 3 + b + 10) k = (m_bm T L b.toNat).2.2.2 k := fun b b0 b1 => by
    obtain ⟨c1, c2, c3, c4, c5⟩ := hrs b.toNat (by omega)
    rw [show Q + 3 + ((b.toNat : Nat) : Int) = Q + 3 + b by omega] at c1 c2 c3 c4 c5
    refine ⟨(uq _ _ (by omega) (by omega)).trans c1, (uq _ _ (by omega) (by omega)).trans c2, fun q => (uq _ _ (by omega) (by omega)).trans (c3 q), (uq _ _ (by omega) (by omega)).trans c4, fun k k0 k1 => ?_⟩
    have := c5 k.toNat (by rw [show ((k.toNat : Nat) : Int) = k by omega]; exact k1)
    rw [show ((k.toNat : Nat) : Int) = k by omega] at this
    exact (uq _ _ (by omega) (by omega)).trans this
  have rw8 : ∀ b : Int, 0 ≤ b → b < n + 1 → ν 89 b = m_bk T L b.toNat ∧ ν 90 b = (m_bm T L b.toNat).2.2.1 ∧ ν 91 b = (m_bm T L b.toNat).2.1 ∧ ν 93 b = m_mn (m_bk T L b.toNat) ∧ ∀ k : Int, 0 ≤ k → k < m_mn (m_bk T L b.toNat) → ν 92 (3 * b + k) = (m_bm T L b.toNat).2.2.2 k := fun b b0 b1 => by
    have := hbt b.toNat (by omega)
    rw [show ((b.toNat : Nat) : Int) = b by omega] at this
    exact this
  have ok9 : ∀ b : Int, 0 ≤ b → b < n + 1 → (0 ≤ m_bk T L b.toNat ∧ m_bk T L b.toNat ≤ 12) ∧ mk_g (m_bk T L b.toNat) (m_bm T L b.toNat).2.1 (m_bm T L b.toNat).2.2.1 b (m_bm T L b.toNat).2.2.2 := fun b b0 b1 => by
    have := rs_ok ht (hg b.toNat (by omega))
    rw [show ((b.toNat : Nat) : Int) = b by omega] at this
    exact this
  clear hrs hbt hg
  refine ⟨⟨⟨a3, ?_, hd, ?_, ?_, ?_, ?_, by omega, fun b b0 b1 => ?_⟩, ⟨fun i i0 i1 => ?_, fun s u' v s0 s1 huv => ?_⟩, ⟨fun b b0 b1 => ?_, fun b t b0 b1 q9 => absurd q9 (nb b t b0 b1), fun b k t u b0 b1 q9 => absurd q9 (nb b t b0 (by omega))⟩, fun b x y b0 b1 hxy st => ?_⟩, ⟨⟨?_, ?_, hP, fun q => a4 q.symm⟩, ⟨?_, e7, ?_, ?_⟩, ⟨?_, ?_⟩, ⟨?_, ?_⟩, ?_, fun j j0 j1 => ?_, e104⟩, j_s_jk (fun a j q => ?_) k3, ⟨?_, ?_, fun j => ?_⟩, ⟨fun b b0 b1 => ?_, fun i k i0 i1 k0 k1 => ⟨qn i k i0 i1 k0 k1, ?_⟩⟩, ⟨fun b t b0 b1 t0 t1 => ?_, fun j => ?_⟩⟩
  · rw [f2 20 5 (by omega), u_app, if_neg (by omega), u_fill, if_neg (by omega), u_app, if_pos ⟨rfl, rfl⟩]
  · rw [g 1 0 (by omega)]; exact ew
  · rw [g 1 1 (by omega)]; exact eh
  · rw [g 1 2 (by omega)]; exact et
  · rw [c_sd, g 36 _ (by omega), g 36 _ (by omega), g 36 _ (by omega), g 36 _ (by omega)]
    exact hs
  · obtain ⟨c1, c2, c3, c4, c5⟩ := rw9 b b0 b1
    obtain ⟨o1, o2, o3, o4, o5, o6, o7, o8⟩ := ok9 b b0 b1
    have hmb := m_mn_b (m_bk T L b.toNat)
    have ek : Q + 3 + b + 10 = Q + 13 + b := by omega
    unfold c_ro
    rw [c1, c2, c4]
    refine ⟨o1, rfl, o2, o3, o4, fun q => by rw [c3 q]; exact o5 q, fun k k0 k1 => ?_, fun k k0 k1 => ?_, o6⟩
    · rw [ek]
      exact qn b k b0 (by omega) k0 k1
    · rw [c5 k k0 k1]
      exact (o8 k k0 k1).2
  · obtain ⟨v1, v2⟩ := k1.2.1.1 i i0 i1
    exact ⟨fun u v u0 u1 v0 v1' hn' => by rw [g _ _ (by omega)]; exact v1 u v u0 u1 v0 v1' hn', fun u v huv => by show m_vr (ν (24 + i) (c_p u v)); rw [g _ _ (by omega)]; exact v2 u v huv⟩
  · show m_vr (ν (4 + s) (c_p u' v))
    rw [g _ _ (by omega)]
    exact k1.2.1.2 s u' v s0 s1 huv
  · rw [v21 b b0 b1]
    exact q_mk_0
  · by_cases cw : n_wh (c_kM ν Q b)
    · exact absurd (v21 b b0 (by omega)) (st.1 cw)
    · exact absurd (st.2 cw) (nb b _ b0 (by omega))
  · rw [f2 0 5 (by omega), u_app, if_neg (by omega), u_fill, if_neg (by omega), u_app, if_neg (by omega), u_app, if_neg (by omega), u_app, if_pos ⟨rfl, rfl⟩]
  · rw [f2 0 6 (by omega), u_app, if_neg (by omega), u_fill, if_neg (by omega), u_app, if_neg (by omega), u_app, if_pos ⟨rfl, rfl⟩]
  · rw [uq Q 2 (by omega) (by omega)]; exact e2
  · rw [g2 85 2 (by omega)]; exact a7
  · rw [g2 85 3 (by omega)]; exact a8
  · rw [e36, f2 0 7 (by omega), u_app, if_neg (by omega), u_fill, if_neg (by omega), u_app, if_neg (by omega), u_app, if_neg (by omega), u_app, if_neg (by omega), u_app, if_neg (by omega), u_app, if_pos ⟨rfl, rfl⟩]
  · rw [e36]; decide
  · rw [e1, f2 0 8 (by omega), u_app, if_pos ⟨rfl, rfl⟩]
  · rw [e1]; decide
  · rw [g 20 6 (by omega), g2 85 14 (by omega)]; exact a13
  · rw [g 22 j (by omega)]; exact a14 j j0 j1
  · by_cases c : a < 85
    · exact g a j (by omega)
    · exact g2 a j (by omega)
  · rw [e31, f2 13 1 (by omega), u_app, if_neg (by omega), u_fill, if_neg (by omega), u_app, if_neg (by omega), u_app, if_neg (by omega), u_app, if_neg (by omega), u_app, if_pos ⟨rfl, rfl⟩]
  · rw [e31]
    exact ⟨by decide, fun j j0 j1 => by omega⟩
  · rw [g 14 j (by omega), g2 105 j (by omega)]; exact t3 j
  · obtain ⟨c1, c2, c3, c4, c5⟩ := rw9 b b0 b1
    obtain ⟨d1, d2, d3, d4, d5⟩ := rw8 b b0 b1
    obtain ⟨o1, o2, o3, o4, o5, o6, o7, o8⟩ := ok9 b b0 b1
    rw [c1, c2, c4, d1, d2, d3, d4]
    exact ⟨rfl, rfl, rfl, c3, o7, fun k k0 k1 => by rw [c5 k k0 k1, d5 k k0 k1]⟩
  · rw [g (P + 13 + i) _ (by omega)]
    exact (p2 i k i0 i1 k0 k1).1
  · rw [e94, if_pos (by omega)]
    exact (q_bf (nb b _ b0 b1)).symm
  · rw [e94]
    split
    · exact Or.inl rfl
    · exact k7 j
theorem J_boards {c : Nat} {μ : QM} (hJ : J c μ) : sp_X10_boards ([] ++ [.inr (.inr 0)]) μ (j_E c sp_X11_boards []) := by
  show sp_X10_boards [.inr (.inr 0)] μ _
  rw [sp_X10_boards_e]
  obtain ⟨h1, P, Q, w, h, n0, hj⟩ := id hJ
  have a1 := hj.2.1.1.1
  have a2 := hj.2.1.1.2.1
  have hQ := hj.2.1.1.2.2.1
  have hP := hj.1.1.1
  have a15 := hj.2.1.2.2.2.2.2.2
  obtain ⟨t1, t2, t3⟩ := hj.2.2.2.1
  have e14 : μ 14 = μ 105 := funext t3
  rw [e14, t1]
  obtain ⟨n, hr⟩ := m_run_ex (μ 105) (μ 85 31)
  have hn10 := m_run_le hr
  have hpl := (m_tk_b t2 (m_rs (μ 105) (μ 85 31) n).2).1
  have hl := t2.1
  refine ⟨rfl, P, Q, hP, hQ, a1, a2, t2, n, hr, fun ν1 f1 e15 => ⟨fun q1 q2 q3 => ?_, fun q1 => ?_⟩⟩
  · have er : ∀ a j : Int, 85 ≤ a → q_up (q_fill (q_up (q_up (q_up (q_up (q_up ν1 0 7 (-1)) 13 1 0) 0 5 Q) 0 6 P) 20 5 Q) 21 0 10 0) 0 8 0 a j = μ a j := fun a j q => by rw [u_app, if_neg (by omega), u_fill, if_neg (by omega), u_app, if_neg (by omega), u_app, if_neg (by omega), u_app, if_neg (by omega), u_app, if_neg (by omega), u_app, if_neg (by omega), f1.1 a j (by omega) (by omega) (by omega)]
    have hn9 : n + 1 ≤ 10 := by
      by_cases c9 : n = 10
      · subst c9
        have := m_h1_10 (μ 105) (μ 85 31) (m_bs (μ 105) (μ 85 31) 10).2 ((10 : Nat) : Int) (m_bs (μ 105) (μ 85 31) 10).1 (by decide)
        have q0 : (m_rdb (μ 105) (μ 85 31) (m_bs (μ 105) (μ 85 31) 10).2 ((10 : Nat) : Int) (m_bs (μ 105) (μ 85 31) 10).1).1 = 0 := q1.1
        omega
      · omega
    refine ⟨_, rfl, by omega, ?_⟩
    show sp_X11_boards [.inr (.inr 85)] _ _
    have e105 : q_up (q_fill (q_up (q_up (q_up (q_up (q_up ν1 0 7 (-1)) 13 1 0) 0 5 Q) 0 6 P) 20 5 Q) 21 0 10 0) 0 8 0 105 = μ 105 := funext fun j => er 105 j (by omega)
    rw [sp_X11_boards_e, e105, er 85 31 (by omega)]
    refine ⟨rfl, fun j q => by rw [er 104 j (by omega)]; exact a15 j q, t2, n, hr, fun ν fe => ⟨fun z => absurd q1 z, fun _ e36 e1 e7 hbt e94 => ⟨rfl, ?_, Q, P, w, h, n + 1, ?_⟩⟩⟩
    · rw [fe.1 85 14 (by omega) (by omega) (by omega) (by omega), er 85 14 (by omega)]
      omega
    · refine bd_yes hj t2 hn9 (rs_all hr q1) f1 q2 q3 (fun a j q => fe.1 a j (by omega) (by omega) (by omega) (by omega)) (fun a j q n1 n2 n3 => ?_) fe.2.2.2 fe.2.2.1 e36 e1 e7 hbt (fun j => ?_)
      · rw [fe.1 a j (by omega) n2 (by omega) (by omega), er a j q]
      · rw [e94, er 94 j (by omega)]
  · have er : ∀ a j : Int, 85 ≤ a → q_up (q_up (q_up ν1 0 7 (m_pl (μ 105) (μ 85 31) (m_rs (μ 105) (μ 85 31) n).2)) 13 1 0) 0 8 (-6) a j = μ a j := fun a j q => by rw [u_app, if_neg (by omega), u_app, if_neg (by omega), u_app, if_neg (by omega), f1.1 a j (by omega) (by omega) (by omega)]
    refine ⟨-6, rfl, by decide, ?_⟩
    show sp_X11_boards [.inr (.inr 85)] _ _
    have e105 : q_up (q_up (q_up ν1 0 7 (m_pl (μ 105) (μ 85 31) (m_rs (μ 105) (μ 85 31) n).2)) 13 1 0) 0 8 (-6) 105 = μ 105 := funext fun j => er 105 j (by omega)
    rw [sp_X11_boards_e, e105, er 85 31 (by omega)]
    refine ⟨rfl, fun j q => by rw [er 104 j (by omega)]; exact a15 j q, t2, n, hr, fun ν fe => ⟨fun _ e36 e1 e89 => ⟨rfl, ?_, P, Q, w, h, n0, ?_⟩, fun z => absurd z q1⟩⟩
    · rw [fe.1 85 14 (by omega) (by omega) (by omega) (by omega), er 85 14 (by omega)]
      omega
    · refine bd_no hj (by omega) f1 (fun a j q => fe.1 a j (by omega) (by omega) (by omega) (by omega)) (fun a j q n1 n2 => ?_) fe.2.2.2 fe.2.2.1 e36 e1
      by_cases z : (89 ≤ a ∧ a ≤ 94) ∨ (a = 85 ∧ j = 7)
      · rw [e89 a j z, er a j q]
      · rw [fe.1 a j (by omega) (by omega) (by omega) (by omega), er a j q]

