/-! the boards of one text -/
def m_bs (T : Int → Int) (L : Int) : Nat → Nat × (Int → Int)
  | 0 => (0, fun _ => -1)
  | n + 1 => ((m_rdb T L (m_bs T L n).2 n (m_bs T L n).1).2 + 1, fun j => if j = m_lt T L (m_bs T L n).1 then (n : Int) else (m_bs T L n).2 j)
def m_rs (T : Int → Int) (L : Int) (n : Nat) : Int × Nat := m_rdb T L (m_bs T L n).2 n (m_bs T L n).1
def m_bk (T : Int → Int) (L : Int) (n : Nat) : Int := m_kb T L (m_bs T L n).2 n (m_bs T L n).1
def m_bm (T : Int → Int) (L : Int) (n : Nat) : (Int × Nat) × Int × Int × (Int → Int) := m_mb T L (m_bs T L n).2 n (m_bs T L n).1
abbrev m_good (T : Int → Int) (L : Int) (n : Nat) : Prop := (m_rs T L n).1 = 0 ∧ m_kd T L (m_rs T L n).2 = 4 ∧ m_cd T L (m_rs T L n).2 = 59
def m_run (T : Int → Int) (L : Int) (n : Nat) : Prop := (∀ m : Nat, m < n → m_good T L m) ∧ ¬ m_good T L n
theorem m_bs_i (T : Int → Int) (L : Int) (n : Nat) : (m_bs T L (n + 1)).1 = (m_rs T L n).2 + 1 := id rfl
theorem m_bs_n (T : Int → Int) (L : Int) (n : Nat) (j : Int) : (m_bs T L (n + 1)).2 j = if j = m_lt T L (m_bs T L n).1 then (n : Int) else (m_bs T L n).2 j := id rfl
theorem m_bs_r (T : Int → Int) (L : Int) : ∀ (n : Nat) (j : Int), -1 ≤ (m_bs T L n).2 j ∧ (m_bs T L n).2 j < n
  | 0, j => by
    show -1 ≤ (-1 : Int) ∧ (-1 : Int) < ((0 : Nat) : Int)
    omega
  | n + 1, j => by
    rw [m_bs_n]
    have := m_bs_r T L n j
    split <;> omega
theorem m_h1_10 (T : Int → Int) (L : Int) (nm : Int → Int) (nB : Int) (i : Nat) (hn : 10 ≤ nB) : (m_rdb T L nm nB i).1 = 1 := by
  have e : m_h1 T L nm nB i = (1, i) := by
    unfold m_h1 m_ms
    rw [if_neg (by simp), q_b, if_neg (by omega)]
  have e2 : m_hd T L nm nB i = (1, i) := by
    unfold m_hd
    rw [e]
    unfold m_h3 m_h2 m_ms
    simp
  unfold m_rdb
  rw [e2]
  simp
theorem m_run_le {T : Int → Int} {L : Int} {n : Nat} (h : m_run T L n) : n ≤ 10 := by
  by_cases c : n ≤ 10
  · exact c
  · have := (h.1 10 (by omega)).1
    have h2 : (m_rs T L 10).1 = 1 := m_h1_10 T L _ _ _ (by decide)
    omega
theorem m_run_ex (T : Int → Int) (L : Int) : ∃ n, m_run T L n := by
  have h10 : ¬ m_good T L 10 := fun q => by
    have h2 : (m_rs T L 10).1 = 1 := m_h1_10 T L _ _ _ (by decide)
    omega
  have : ∀ k : Nat, k ≤ 10 → (∀ m : Nat, m < k → m_good T L m) ∨ ∃ n, m_run T L n := by
    intro k
    induction k with
    | zero => intro _; exact Or.inl (fun m hm => by omega)
    | succ k ih =>
      intro hk
      rcases ih (by omega) with q | q
      · by_cases c : m_good T L k
        · refine Or.inl (fun m hm => ?_)
          by_cases c2 : m = k
          · rw [c2]; exact c
          · exact q m (by omega)
        · exact Or.inr ⟨k, q, c⟩
      · exact Or.inr q
  rcases this 10 (by omega) with q | q
  · exact ⟨10, q, h10⟩
  · exact q
theorem m_run_un {T : Int → Int} {L : Int} {n m : Nat} (h1 : m_run T L n) (h2 : m_run T L m) : n = m := by
  rcases Nat.lt_trichotomy n m with c | c | c
  · exact absurd (h2.1 n c) h1.2
  · exact c
  · exact absurd (h1.1 m c) h2.2
/-- boards in a memory's rows -/
def m_bt (T : Int → Int) (L : Int) (a0 a1 a2 a3 a4 : Int) (c : Nat) (ν : QM) : Prop := ∀ b : Nat, b < c → ν a0 b = m_bk T L b ∧ ν a1 b = (m_bm T L b).2.2.1 ∧ ν a2 b = (m_bm T L b).2.1 ∧ ν a3 b = m_mn (m_bk T L b) ∧ ∀ k : Int, 0 ≤ k → k < m_mn (m_bk T L b) → ν a4 (3 * b + k) = (m_bm T L b).2.2.2 k
/-- what stays -/
def m_fb (μ ν : QM) : Prop := (∀ a j : Int, ¬ (a = 85 ∧ (j = 0 ∨ j = 23 ∨ 32 ≤ j ∧ j ≤ 37)) → ¬ (99 ≤ a ∧ a ≤ 103) → ¬ a = 104 → ν a j = μ a j) ∧ ν 85 0 = 0 ∧ (∀ j : Int, j < 0 ∨ 26 ≤ j → ν 104 j = -1)
/-- after board m -/
def m_af (T : Int → Int) (L : Int) (μ : QM) (m : Nat) (ν : QM) : Prop := m_ps T L (m_rs T L m) ν ∧ m_fb μ ν ∧ ((m_rs T L m).1 = 0 → ν 85 23 = m + 1 ∧ m_bt T L 99 100 101 103 102 (m + 1) ν ∧ ∀ j : Int, ν 104 j = (m_bs T L (m + 1)).2 j)
/-- what stays at the end -/
def m_fe (μ ν : QM) : Prop := (∀ a j : Int, ¬ (a = 85 ∧ (j = 0 ∨ j = 1 ∨ j = 7 ∨ j = 23 ∨ 31 ≤ j ∧ j ≤ 37)) → ¬ (89 ≤ a ∧ a ≤ 94) → ¬ (99 ≤ a ∧ a ≤ 103) → ¬ a = 104 → ν a j = μ a j) ∧ ν 85 0 = 0 ∧ ν 85 31 = 0 ∧ (∀ j : Int, j < 0 ∨ 26 ≤ j → ν 104 j = -1)
def sp_X11_boards : QP := fun ra μ K => match ra with
  | [.inr (.inr this)] => this = 85 ∧ (∀ j : Int, j < 0 ∨ 26 ≤ j → μ 104 j = -1) ∧ m_tp (μ 105) (μ 85 31) ∧ ∃ n : Nat, m_run (μ 105) (μ 85 31) n ∧ ∀ ν : QM, m_fe μ ν → (¬ ((m_rs (μ 105) (μ 85 31) n).1 = 0 ∧ m_kd (μ 105) (μ 85 31) (m_rs (μ 105) (μ 85 31) n).2 = 0) → ν 85 36 = m_pl (μ 105) (μ 85 31) (m_rs (μ 105) (μ 85 31) n).2 → ν 85 1 = -6 → (∀ a j : Int, 89 ≤ a ∧ a ≤ 94 ∨ a = 85 ∧ j = 7 → ν a j = μ a j) → K (some (.inl (-6))) ν) ∧ ((m_rs (μ 105) (μ 85 31) n).1 = 0 ∧ m_kd (μ 105) (μ 85 31) (m_rs (μ 105) (μ 85 31) n).2 = 0 → ν 85 36 = -1 → ν 85 1 = 0 → ν 85 7 = n + 1 → m_bt (μ 105) (μ 85 31) 89 90 91 93 92 (n + 1) ν → (∀ j : Int, ν 94 j = if 0 ≤ j ∧ j < 90 then 0 else μ 94 j) → K (some (.inl (n + 1))) ν)
  | _ => False
theorem sp_X11_boards_e (this : Int) (μ : QM) (K : Option QV → QM → Prop) : sp_X11_boards [.inr (.inr this)] μ K = (this = 85 ∧ (∀ j : Int, j < 0 ∨ 26 ≤ j → μ 104 j = -1) ∧ m_tp (μ 105) (μ 85 31) ∧ ∃ n : Nat, m_run (μ 105) (μ 85 31) n ∧ ∀ ν : QM, m_fe μ ν → (¬ ((m_rs (μ 105) (μ 85 31) n).1 = 0 ∧ m_kd (μ 105) (μ 85 31) (m_rs (μ 105) (μ 85 31) n).2 = 0) → ν 85 36 = m_pl (μ 105) (μ 85 31) (m_rs (μ 105) (μ 85 31) n).2 → ν 85 1 = -6 → (∀ a j : Int, 89 ≤ a ∧ a ≤ 94 ∨ a = 85 ∧ j = 7 → ν a j = μ a j) → K (some (.inl (-6))) ν) ∧ ((m_rs (μ 105) (μ 85 31) n).1 = 0 ∧ m_kd (μ 105) (μ 85 31) (m_rs (μ 105) (μ 85 31) n).2 = 0 → ν 85 36 = -1 → ν 85 1 = 0 → ν 85 7 = n + 1 → m_bt (μ 105) (μ 85 31) 89 90 91 93 92 (n + 1) ν → (∀ j : Int, ν 94 j = if 0 ≤ j ∧ j < 90 then 0 else μ 94 j) → K (some (.inl (n + 1))) ν)) := propext Iff.rfl
theorem sp_X11_boards_i {ra : List QV} {μ : QM} {K : Option QV → QM → Prop} (h : sp_X11_boards ra μ K) : ∃ this : Int, ra = [.inr (.inr this)] ∧ (this = 85 ∧ (∀ j : Int, j < 0 ∨ 26 ≤ j → μ 104 j = -1) ∧ m_tp (μ 105) (μ 85 31) ∧ ∃ n : Nat, m_run (μ 105) (μ 85 31) n ∧ ∀ ν : QM, m_fe μ ν → (¬ ((m_rs (μ 105) (μ 85 31) n).1 = 0 ∧ m_kd (μ 105) (μ 85 31) (m_rs (μ 105) (μ 85 31) n).2 = 0) → ν 85 36 = m_pl (μ 105) (μ 85 31) (m_rs (μ 105) (μ 85 31) n).2 → ν 85 1 = -6 → (∀ a j : Int, 89 ≤ a ∧ a ≤ 94 ∨ a = 85 ∧ j = 7 → ν a j = μ a j) → K (some (.inl (-6))) ν) ∧ ((m_rs (μ 105) (μ 85 31) n).1 = 0 ∧ m_kd (μ 105) (μ 85 31) (m_rs (μ 105) (μ 85 31) n).2 = 0 → ν 85 36 = -1 → ν 85 1 = 0 → ν 85 7 = n + 1 → m_bt (μ 105) (μ 85 31) 89 90 91 93 92 (n + 1) ν → (∀ j : Int, ν 94 j = if 0 ≤ j ∧ j < 90 then 0 else μ 94 j) → K (some (.inl (n + 1))) ν)) := by
  unfold sp_X11_boards at h
  split at h
  · exact ⟨_, rfl, h⟩
  · exact h.elim
def rm_X11_boards : Room := { frames := 5, cells := 0, slots := 0, locals := 111 }
def G_X11_boards : Nat → Nat × QP := fun i => match i with
  | 254 => (1, sp_X11_next)
  | 288 => (1, sp_X11_readBoard)
  | 272 => (2, sp_X11_isSign)
  | 257 => (2, sp_X11_must)
  | 103 => (2, sp_X11_answer)
  | 92 => (1, sp_X11_staleAll)
  | _ => (0, fun _ _ _ => False)
theorem G_X11_boards_254 : G_X11_boards 254 = (1, sp_X11_next) := id rfl
theorem G_X11_boards_288 : G_X11_boards 288 = (1, sp_X11_readBoard) := id rfl
theorem G_X11_boards_272 : G_X11_boards 272 = (2, sp_X11_isSign) := id rfl
theorem G_X11_boards_257 : G_X11_boards 257 = (2, sp_X11_must) := id rfl
theorem G_X11_boards_103 : G_X11_boards 103 = (2, sp_X11_answer) := id rfl
theorem G_X11_boards_92 : G_X11_boards 92 = (1, sp_X11_staleAll) := id rfl
def L2_X11_boards : List (Nat × Option (List QE)) := [(0, some b_X11_boards_0), (27, none), (33, some b_X11_boards_33), (46, some b_X11_boards_46), (54, none), (61, some b_X11_boards_61), (70, some b_X11_boards_70), (81, none), (88, some b_X11_boards_88), (95, some b_X11_boards_95), (100, none), (112, some b_X11_boards_112), (119, some b_X11_boards_119), (129, none), (137, some b_X11_boards_137), (187, none), (197, some b_X11_boards_197), (223, some b_X11_boards_223), (229, some b_X11_boards_229)]
def s2_X11_boards : Nat → Option (List QE) := q_look L2_X11_boards
theorem s2_X11_boards_0 : s2_X11_boards 0 = some b_X11_boards_0 := id rfl
theorem s2_X11_boards_27 : s2_X11_boards 27 = none := id rfl
theorem s2_X11_boards_33 : s2_X11_boards 33 = some b_X11_boards_33 := id rfl
theorem s2_X11_boards_46 : s2_X11_boards 46 = some b_X11_boards_46 := id rfl
theorem s2_X11_boards_54 : s2_X11_boards 54 = none := id rfl
theorem s2_X11_boards_61 : s2_X11_boards 61 = some b_X11_boards_61 := id rfl
theorem s2_X11_boards_70 : s2_X11_boards 70 = some b_X11_boards_70 := id rfl
theorem s2_X11_boards_81 : s2_X11_boards 81 = none := id rfl
theorem s2_X11_boards_88 : s2_X11_boards 88 = some b_X11_boards_88 := id rfl
theorem s2_X11_boards_95 : s2_X11_boards 95 = some b_X11_boards_95 := id rfl
theorem s2_X11_boards_100 : s2_X11_boards 100 = none := id rfl
theorem s2_X11_boards_112 : s2_X11_boards 112 = some b_X11_boards_112 := id rfl
theorem s2_X11_boards_119 : s2_X11_boards 119 = some b_X11_boards_119 := id rfl
theorem s2_X11_boards_129 : s2_X11_boards 129 = none := id rfl
theorem s2_X11_boards_137 : s2_X11_boards 137 = some b_X11_boards_137 := id rfl
theorem s2_X11_boards_187 : s2_X11_boards 187 = none := id rfl
theorem s2_X11_boards_197 : s2_X11_boards 197 = some b_X11_boards_197 := id rfl
theorem s2_X11_boards_223 : s2_X11_boards 223 = some b_X11_boards_223 := id rfl
theorem s2_X11_boards_229 : s2_X11_boards 229 = some b_X11_boards_229 := id rfl
theorem o2_X11_boards : q_skok cX11_boards 3 u_X11_boards L2_X11_boards = true := by decide +kernel
theorem o2_X11_boards_81 : q_ok cX11_boards 3 u_X11_boards 81 b_X11_boards_81 = true := by decide +kernel
theorem o2_X11_boards_100 : q_ok cX11_boards 3 u_X11_boards 100 b_X11_boards_100 = true := by decide +kernel
theorem m_nxt_0 {T : Int → Int} {L : Int} {μ : QM} (h1 : μ 105 = T) (h2 : μ 85 31 = L) (h3 : μ 85 37 = 0) (h5 : μ 85 36 = -1) (h7 : μ 85 33 = 0) : m_ps T L (0, 0) (m_nxt μ) ∧ m_f6 μ (m_nxt μ) := by
  refine ⟨⟨?_, ?_, ?_, Or.inl rfl, ?_, ?_, ?_, ?_, ?_⟩, ?_⟩
  · funext j
    unfold m_nxt
    rw [tk_rd.1 j, h1]
  · unfold m_nxt
    rw [tk_rd.2.1, h2]
  · refine Eq.trans ?_ h3
    unfold m_nxt
    simp [u_tok]
  · refine Eq.trans ?_ h5
    unfold m_nxt
    simp [u_tok]
  · unfold m_nxt
    rw [tk_rd.2.2.1, h1, h2, h7]
    rfl
  · unfold m_nxt
    rw [tk_rd.2.2.2.1, h1, h2, h7]
    rfl
  · unfold m_nxt
    rw [tk_rd.2.2.2.2.1, h1, h2, h7]
    rfl
  · unfold m_nxt
    rw [tk_rd.2.2.2.2.2, h1, h2, h7]
    rfl
  · intro a j hn
    unfold m_nxt
    rw [u_tok, if_neg (by omega), if_neg (by omega), if_neg (by omega), if_neg (by omega)]
theorem bo_rd {T : Int → Int} {L : Int} {μ ν : QM} {m : Nat} {K : QM → Prop} (ht : m_tp T L) (hp : m_ps T L (0, (m_bs T L m).1) ν) (h23 : ν 85 23 = m) (hm : m ≤ 10) (hn : ν 104 = (m_bs T L m).2) (hb : m_bt T L 99 100 101 103 102 m ν) (hf : m_fb μ ν) (hk : ∀ ν' : QM, m_af T L μ m ν' → K ν') : (0 ≤ ν 85 23 ∧ ν 85 23 ≤ 10) ∧ (∀ j : Int, -2147483648 ≤ ν 104 j ∧ ν 104 j ≤ 2147483647) ∧ ∃ (T : Int → Int) (L : Int) (i : Nat), m_tp T L ∧ m_ps T L (0, i) ν ∧ ∀ ν' : QM, (∀ a j : Int, ¬ (a = 85 ∧ (j = 23 ∨ 32 ≤ j ∧ j ≤ 37)) → ¬ (99 ≤ a ∧ a ≤ 103 ∨ a = 104 ∧ 0 ≤ j ∧ j < 26) → ν' a j = ν a j) → m_ps T L (m_rdb T L (ν 104) (ν 85 23) i) ν' → ((m_rdb T L (ν 104) (ν 85 23) i).1 = 0 → m_bd T L ν (ν 85 23) (m_rdb T L (ν 104) (ν 85 23) i) (m_kb T L (ν 104) (ν 85 23) i) (m_mb T L (ν 104) (ν 85 23) i).2.1 (m_mb T L (ν 104) (ν 85 23) i).2.2.1 (m_mn (m_kb T L (ν 104) (ν 85 23) i)) (m_mb T L (ν 104) (ν 85 23) i).2.2.2 (q_blk (q_up ν' 85 23 (ν 85 23)) 104 26 (ν 104)) ∧ ν' 85 23 = ν 85 23 + 1 ∧ ∀ j : Int, ν' 104 j = if j = m_lt T L i then ν 85 23 else ν 104 j) → K ν' := by
  rw [hn, h23]
  refine ⟨by omega, fun j => ?_, T, L, (m_bs T L m).1, ht, hp, fun ν' f1 q1 q2 => hk ν' ⟨q1, ⟨fun a j n1 n2 n3 => ?_, ?_, fun j hj => ?_⟩, fun c => ?_⟩⟩
  · have := m_bs_r T L m j
    omega
  · rw [f1 a j (by omega) (by omega)]
    exact hf.1 a j (by omega) n2 n3
  · rw [f1 85 0 (by omega) (by omega)]
    exact hf.2.1
  · rw [f1 104 j (by omega) (by omega)]
    exact hf.2.2 j hj
  · obtain ⟨⟨d1, d2, d3⟩, d4, d5⟩ := q2 c
    have e : ∀ a j : Int, ¬ a = 85 → ¬ a = 104 → q_blk (q_up ν' 85 23 (m : Int)) 104 26 (m_bs T L m).2 a j = ν' a j := fun a j n1 n2 => by
      rw [u_blk, if_neg (by omega), u_app, if_neg (by omega)]
    refine ⟨d4, fun b hb1 => ?_, fun j => by rw [d5 j, m_bs_n]⟩
    by_cases c1 : b = m
    · subst c1
      obtain ⟨g1, g2, g3, g4, g5⟩ := d3 c
      rw [e _ _ (by decide) (by decide)] at g1 g2 g3 g4
      refine ⟨g1, g2, g3, g4, fun k k0 k1 => ?_⟩
      rw [← e _ _ (by decide) (by decide)]
      exact g5 k k0 k1
    · obtain ⟨g1, g2, g3, g4, g5⟩ := hb b (by omega)
      have fr : ∀ a j : Int, 99 ≤ a ∧ a ≤ 103 → ¬ ((a = 99 ∨ a = 100 ∨ a = 101 ∨ a = 103) ∧ j = m) → ¬ (a = 102 ∧ 3 * (m : Int) ≤ j ∧ j < 3 * (m : Int) + 3) → ν' a j = ν a j := fun a j n1 n2 n3 => by
        rw [← e _ _ (by omega) (by omega)]
        exact d2 a j (by omega) n2 n3
      have hmn := m_mn_b (m_bk T L b)
      refine ⟨?_, ?_, ?_, ?_, fun k k0 k1 => ?_⟩
      · rw [fr _ _ (by omega) (by omega) (by omega)]
        exact g1
      · rw [fr _ _ (by omega) (by omega) (by omega)]
        exact g2
      · rw [fr _ _ (by omega) (by omega) (by omega)]
        exact g3
      · rw [fr _ _ (by omega) (by omega) (by omega)]
        exact g4
      · rw [fr _ _ (by omega) (by omega) (by omega)]
        exact g5 k k0 k1
theorem bo_27 {Rt : Option QV → QM → Prop} {S : Nat → QL → List QV → QM → Prop} (hR : q_Rule cX11_boards 3 u_X11_boards fl_X11 ld_X11 G_X11_boards q_T 0 s2_X11_boards Rt S) {T : Int → Int} {L : Int} {μ0 : QM} (ht : m_tp T L) : ∀ (n : Nat) (i : Int) (μ : QM), 0 ≤ i → i ≤ 26 → 26 - i < n → μ 105 = T → μ 85 31 = L → μ 85 37 = 0 → μ 85 36 = -1 → μ 85 33 = 0 → μ 85 23 = 0 → m_fb μ0 μ → (∀ j : Int, j < i → μ 104 j = -1) → (∀ (ν : QM) (l1 : Option QV), m_af T L μ0 0 ν → S 54 [some (.inr (.inr 85)), l1, none] [] ν) → S 27 [some (.inr (.inr 85)), some (.inl i), none] [] μ := by
  intro n
  induction n with
  | zero => intro i μ h1 h2 h3; omega
  | succ n ih =>
    intro i μ h1 h2 h3 a1 a2 a3 a4 a5 a6 a7 a8 hk
    refine hR 40 b_X11_boards_27 27 _ _ _ o_X11_boards_27 ?_
    simp only [v_opt_n, v_opt_s, v_nil, v_iconst, v_bipush, v_sipush, v_lconst0, v_lconst1, v_ldc, v_ldcw, v_ldc2, v_iload0, v_iload1, v_iload2, v_iload3, v_iload, v_lload0, v_lload1, v_lload2, v_lload3, v_lload, v_aload0, v_aload1, v_aload2, v_aload3, v_aload, v_istore0, v_istore1, v_istore2, v_istore3, v_istore, v_lstore0, v_lstore1, v_lstore2, v_lstore3, v_lstore, v_astore0, v_astore1, v_astore2, v_astore3, v_astore, v_iinc, v_iadd, v_isub, v_imul, v_iand, v_ior, v_ixor, v_ishl, v_ishr, v_iushr, v_ineg, v_idiv, v_irem, v_ladd, v_lsub, v_lmul, v_lcmp, v_i2l, v_l2i, v_i2c, v_dup, v_dup2, v_if_eq, v_if_ne, v_if_lt, v_if_ge, v_if_gt, v_if_le, v_ic_eq, v_ic_ne, v_ic_lt, v_ic_ge, v_ic_gt, v_ic_le, v_goto, v_tsw, v_lsw, v_ireturn, v_areturn, v_return, v_iaload, v_laload, v_baload, v_caload, v_aaload, v_iastore, v_lastore, v_bastore, v_castore, v_alen, v_invvi, v_invst, v_invsp, e_int, e_lng, e_ref, e_lg0, e_lg1, e_lg2, e_lg3, e_lg4, e_lg5, e_lg6, e_lg7, e_lg8, e_lg9, e_lg10, e_lg11, e_lg12, e_lg13, e_clrI, e_clrJ, e_clrP, e_clrN, e_s0, e_s1, e_s2, e_s3, e_s4, e_s5, e_s6, e_s7, e_s8, e_s9, e_s10, e_s11, e_s12, e_s13, e_t0, e_t1, e_t2, e_t3, e_t4, e_t5, e_t6, e_t7, e_t8, e_t9, e_t10, e_t11, e_t12, e_t13, e_fd, e_kk, e_k0, e_k1, e_k2, e_k3, e_k4, e_k5, e_k6, e_k7, e_k8, e_k9, e_sv0, e_sv1, e_sv2, e_sv3, e_svc, e_pf0, e_pf1, e_pf2, e_pf3, e_ar, e_aa, e_al, e_sw1, e_sw2, e_ct0, e_ct1, e_ct2, e_cat0, e_cat1, e_rk0, e_rk1, e_rk2, e_inv0, e_inv1, e_inv2, e_inv3, e_inv4, e_inv5, e_inv6, e_o0, e_o1, e_cl, e_cle, e_cg, e_cge, e_ce, e_cr1, e_cr2, e_r, e_R, e_up, Int.cast_ofNat_Int, u_app, false_and, and_false, e_b0, e_b1, e_bn, e_bl, e_bu, Int.reduceLE, Int.reduceLT, Int.reduceEq, Int.reduceNeg, Int.reduceAdd, Int.reduceSub, Int.reduceMul, Nat.reduceLeDiff, Nat.reduceLT, Nat.reduceAdd, Nat.reduceEqDiff, true_and, and_true, true_or, or_true, false_or, or_false, forall_const, not_true_eq_false, not_false_eq_true, true_implies, false_implies, implies_true, and_self, zero_ne_one, one_ne_zero, eq_self, reduceIte, s2_X11_boards_0, b_X11_boards_0, s2_X11_boards_27, b_X11_boards_27, s2_X11_boards_33, b_X11_boards_33, s2_X11_boards_46, b_X11_boards_46, s2_X11_boards_54, b_X11_boards_54, s2_X11_boards_61, b_X11_boards_61, s2_X11_boards_70, b_X11_boards_70, s2_X11_boards_81, b_X11_boards_81, s2_X11_boards_88, b_X11_boards_88, s2_X11_boards_95, b_X11_boards_95, s2_X11_boards_100, b_X11_boards_100, s2_X11_boards_112, b_X11_boards_112, s2_X11_boards_119, b_X11_boards_119, s2_X11_boards_129, b_X11_boards_129, s2_X11_boards_137, b_X11_boards_137, s2_X11_boards_187, b_X11_boards_187, s2_X11_boards_197, b_X11_boards_197, s2_X11_boards_223, b_X11_boards_223, s2_X11_boards_229, b_X11_boards_229, g_X11_85, p_X11_85, g_X11_224, p_X11_224, g_X11_250, p_X11_250, g_X11_79, p_X11_79, g_X11_269, p_X11_269, g_X11_73, g_X11_239, g_X11_218, p_X11_218, g_X11_125, p_X11_125, g_X11_27, g_X11_58, g_X11_30, g_X11_61, g_X11_33, g_X11_64, g_X11_39, g_X11_70, g_X11_36, g_X11_67, G_X11_boards_254, sp_X11_next_e, G_X11_boards_288, sp_X11_readBoard_e, G_X11_boards_272, sp_X11_isSign_e, G_X11_boards_257, sp_X11_must_e, G_X11_boards_103, sp_X11_answer_e, G_X11_boards_92, sp_X11_staleAll_e, T_104]
    refine ⟨by omega, fun c => ?_, fun c => ⟨h1, by omega, ih (i + 1) _ (by omega) (by omega) (by omega) ?_ ?_ ?_ ?_ ?_ ?_ ?_ ?_ hk⟩⟩
    · obtain ⟨q1, q2⟩ := m_nxt_0 a1 a2 a3 a4 a5
      have tp : m_tap μ := by
        unfold m_tap
        rw [a1, a2]
        exact ht
      have ht1 := ht.1
      refine ⟨tp, by omega, bo_rd (m := 0) ht q1 ?_ (by omega) ?_ (fun b hb => by omega) ⟨fun a j n1 n2 n3 => ?_, ?_, fun j hj => ?_⟩ (fun ν' q => hk ν' _ q)⟩
      · rw [q2 85 23 (by omega)]
        exact a6
      · funext j
        rw [q2 104 j (by omega)]
        show _ = (-1 : Int)
        by_cases c1 : j < 26
        · exact a8 j (by omega)
        · exact a7.2.2 j (by omega)
      · rw [q2 a j (by omega)]
        exact a7.1 a j n1 n2 n3
      · rw [q2 85 0 (by omega)]
        exact a7.2.1
      · rw [q2 104 j (by omega)]
        exact a7.2.2 j hj
    · funext j
      rw [u_app, if_neg (by omega), a1]
    · rw [u_app, if_neg (by omega), a2]
    · rw [u_app, if_neg (by omega), a3]
    · rw [u_app, if_neg (by omega), a4]
    · rw [u_app, if_neg (by omega), a5]
    · rw [u_app, if_neg (by omega), a6]
    · refine ⟨fun a j n1 n2 n3 => ?_, ?_, fun j hj => ?_⟩
      · rw [u_app, if_neg (by omega)]
        exact a7.1 a j n1 n2 n3
      · rw [u_app, if_neg (by omega)]
        exact a7.2.1
      · rw [u_app, if_neg (by omega)]
        exact a7.2.2 j hj
    · intro j hj
      rw [u_app]
      by_cases c1 : j = i
      · rw [if_pos ⟨rfl, c1⟩]
      · rw [if_neg (by omega)]
        exact a8 j (by omega)
def m_fc (ν0 ν : QM) : Prop := ∀ a j : Int, ¬ (89 ≤ a ∧ a ≤ 93) → ν a j = ν0 a j
def m_bc (T : Int → Int) (L : Int) (b : Nat) (k : Int) (ν : QM) : Prop := ν 89 b = m_bk T L b ∧ ν 90 b = (m_bm T L b).2.2.1 ∧ ν 91 b = (m_bm T L b).2.1 ∧ ν 93 b = m_mn (m_bk T L b) ∧ ∀ i : Int, 0 ≤ i → i < k → ν 92 (3 * b + i) = (m_bm T L b).2.2.2 i
theorem bo_187 {Rt : Option QV → QM → Prop} {S : Nat → QL → List QV → QM → Prop} (hR : q_Rule cX11_boards 3 u_X11_boards fl_X11 ld_X11 G_X11_boards q_T 0 s2_X11_boards Rt S) {T : Int → Int} {L : Int} {ν0 : QM} {b c : Nat} (hb : b < c) (hc : c ≤ 11) (hc2 : b < 10) (h0 : m_bt T L 99 100 101 103 102 c ν0) (hk : ∀ (ν : QM) (l2 : Option QV), m_fc ν0 ν → m_bt T L 89 90 91 93 92 (b + 1) ν → S 129 [some (.inr (.inr 85)), some (.inl ((b : Int) + 1)), l2] [] ν) : ∀ (n : Nat) (k : Int) (μ : QM), 0 ≤ k → k ≤ m_mn (m_bk T L b) → m_mn (m_bk T L b) - k < n → m_fc ν0 μ → m_bt T L 89 90 91 93 92 b μ → m_bc T L b k μ → S 187 [some (.inr (.inr 85)), some (.inl b), some (.inl k)] [] μ := by
  intro n
  induction n with
  | zero => intro k μ h1 h2 h3; omega
  | succ n ih =>
    intro k μ h1 h2 h3 h4 h5 h6
    obtain ⟨g1, g2, g3, g4, g5⟩ := h0 b hb
    have hmn := m_mn_b (m_bk T L b)
    have e4 := h4 103 b (by omega)
    rw [g4] at e4
    refine hR 40 b_X11_boards_187 187 _ _ _ o_X11_boards_187 ?_
    simp only [v_opt_n, v_opt_s, v_nil, v_iconst, v_bipush, v_sipush, v_lconst0, v_lconst1, v_ldc, v_ldcw, v_ldc2, v_iload0, v_iload1, v_iload2, v_iload3, v_iload, v_lload0, v_lload1, v_lload2, v_lload3, v_lload, v_aload0, v_aload1, v_aload2, v_aload3, v_aload, v_istore0, v_istore1, v_istore2, v_istore3, v_istore, v_lstore0, v_lstore1, v_lstore2, v_lstore3, v_lstore, v_astore0, v_astore1, v_astore2, v_astore3, v_astore, v_iinc, v_iadd, v_isub, v_imul, v_iand, v_ior, v_ixor, v_ishl, v_ishr, v_iushr, v_ineg, v_idiv, v_irem, v_ladd, v_lsub, v_lmul, v_lcmp, v_i2l, v_l2i, v_i2c, v_dup, v_dup2, v_if_eq, v_if_ne, v_if_lt, v_if_ge, v_if_gt, v_if_le, v_ic_eq, v_ic_ne, v_ic_lt, v_ic_ge, v_ic_gt, v_ic_le, v_goto, v_tsw, v_lsw, v_ireturn, v_areturn, v_return, v_iaload, v_laload, v_baload, v_caload, v_aaload, v_iastore, v_lastore, v_bastore, v_castore, v_alen, v_invvi, v_invst, v_invsp, e_int, e_lng, e_ref, e_lg0, e_lg1, e_lg2, e_lg3, e_lg4, e_lg5, e_lg6, e_lg7, e_lg8, e_lg9, e_lg10, e_lg11, e_lg12, e_lg13, e_clrI, e_clrJ, e_clrP, e_clrN, e_s0, e_s1, e_s2, e_s3, e_s4, e_s5, e_s6, e_s7, e_s8, e_s9, e_s10, e_s11, e_s12, e_s13, e_t0, e_t1, e_t2, e_t3, e_t4, e_t5, e_t6, e_t7, e_t8, e_t9, e_t10, e_t11, e_t12, e_t13, e_fd, e_kk, e_k0, e_k1, e_k2, e_k3, e_k4, e_k5, e_k6, e_k7, e_k8, e_k9, e_sv0, e_sv1, e_sv2, e_sv3, e_svc, e_pf0, e_pf1, e_pf2, e_pf3, e_ar, e_aa, e_al, e_sw1, e_sw2, e_ct0, e_ct1, e_ct2, e_cat0, e_cat1, e_rk0, e_rk1, e_rk2, e_inv0, e_inv1, e_inv2, e_inv3, e_inv4, e_inv5, e_inv6, e_o0, e_o1, e_cl, e_cle, e_cg, e_cge, e_ce, e_cr1, e_cr2, e_r, e_R, e_up, Int.cast_ofNat_Int, u_app, false_and, and_false, e_b0, e_b1, e_bn, e_bl, e_bu, Int.reduceLE, Int.reduceLT, Int.reduceEq, Int.reduceNeg, Int.reduceAdd, Int.reduceSub, Int.reduceMul, Nat.reduceLeDiff, Nat.reduceLT, Nat.reduceAdd, Nat.reduceEqDiff, true_and, and_true, true_or, or_true, false_or, or_false, forall_const, not_true_eq_false, not_false_eq_true, true_implies, false_implies, implies_true, and_self, zero_ne_one, one_ne_zero, eq_self, reduceIte, s2_X11_boards_0, b_X11_boards_0, s2_X11_boards_27, b_X11_boards_27, s2_X11_boards_33, b_X11_boards_33, s2_X11_boards_46, b_X11_boards_46, s2_X11_boards_54, b_X11_boards_54, s2_X11_boards_61, b_X11_boards_61, s2_X11_boards_70, b_X11_boards_70, s2_X11_boards_81, b_X11_boards_81, s2_X11_boards_88, b_X11_boards_88, s2_X11_boards_95, b_X11_boards_95, s2_X11_boards_100, b_X11_boards_100, s2_X11_boards_112, b_X11_boards_112, s2_X11_boards_119, b_X11_boards_119, s2_X11_boards_129, b_X11_boards_129, s2_X11_boards_137, b_X11_boards_137, s2_X11_boards_187, b_X11_boards_187, s2_X11_boards_197, b_X11_boards_197, s2_X11_boards_223, b_X11_boards_223, s2_X11_boards_229, b_X11_boards_229, g_X11_85, p_X11_85, g_X11_224, p_X11_224, g_X11_250, p_X11_250, g_X11_79, p_X11_79, g_X11_269, p_X11_269, g_X11_73, g_X11_239, g_X11_218, p_X11_218, g_X11_125, p_X11_125, g_X11_27, g_X11_58, g_X11_30, g_X11_61, g_X11_33, g_X11_64, g_X11_39, g_X11_70, g_X11_36, g_X11_67, G_X11_boards_254, sp_X11_next_e, G_X11_boards_288, sp_X11_readBoard_e, G_X11_boards_272, sp_X11_isSign_e, G_X11_boards_257, sp_X11_must_e, G_X11_boards_103, sp_X11_answer_e, G_X11_boards_92, sp_X11_staleAll_e, T_103, T_102, T_92, e4]
    refine ⟨by omega, by omega, by omega, fun c1 => hk μ _ h4 (fun b' hb' => ?_), fun c1 => ⟨by omega, by omega, by omega, by omega, ih (k + 1) _ (by omega) (by omega) (by omega) ?_ ?_ ?_⟩⟩
    · by_cases c2 : b' = b
      · subst c2
        obtain ⟨d1, d2, d3, d4, d5⟩ := h6
        exact ⟨d1, d2, d3, d4, fun i i0 i1 => d5 i i0 (by omega)⟩
      · exact h5 b' (by omega)
    · intro a j n1
      rw [u_app, if_neg (by omega)]
      exact h4 a j n1
    · intro b' hb'
      obtain ⟨d1, d2, d3, d4, d5⟩ := h5 b' hb'
      have := m_mn_b (m_bk T L b')
      refine ⟨by rw [u_app, if_neg (by omega)]; exact d1, by rw [u_app, if_neg (by omega)]; exact d2, by rw [u_app, if_neg (by omega)]; exact d3, by rw [u_app, if_neg (by omega)]; exact d4, fun i i0 i1 => by rw [u_app, if_neg (by omega)]; exact d5 i i0 i1⟩
    · obtain ⟨d1, d2, d3, d4, d5⟩ := h6
      refine ⟨by rw [u_app, if_neg (by omega)]; exact d1, by rw [u_app, if_neg (by omega)]; exact d2, by rw [u_app, if_neg (by omega)]; exact d3, by rw [u_app, if_neg (by omega)]; exact d4, fun i i0 i1 => ?_⟩
      rw [u_app]
      by_cases c2 : i = k
      · rw [if_pos ⟨rfl, by omega⟩, h4 102 _ (by omega), g5 k h1 (by omega), c2]
      · rw [if_neg (by omega)]
        exact d5 i i0 (by omega)
theorem bo_129 {Rt : Option QV → QM → Prop} {S : Nat → QL → List QV → QM → Prop} (hR : q_Rule cX11_boards 3 u_X11_boards fl_X11 ld_X11 G_X11_boards q_T 0 s2_X11_boards Rt S) {T : Int → Int} {L : Int} {ν0 : QM} {c : Nat} (hc : c ≤ 10) (h0 : m_bt T L 99 100 101 103 102 c ν0) (h7 : ν0 85 7 = c) (hk : ∀ ν : QM, m_fc ν0 ν → m_bt T L 89 90 91 93 92 c ν → Rt (some (.inl c)) (q_up (q_fill ν 94 0 90 0) 85 1 0)) : ∀ (n : Nat) (b : Nat) (μ : QM) (l2 : Option QV), b + n = c → m_fc ν0 μ → m_bt T L 89 90 91 93 92 b μ → S 129 [some (.inr (.inr 85)), some (.inl b), l2] [] μ := by
  intro n
  induction n with
  | zero =>
    intro b μ l2 h1 h2 h3
    have e7 : μ 85 7 = c := (h2 85 7 (by omega)).trans h7
    have e8 : q_fill μ 94 0 90 0 85 7 = c := by rw [u_fill, if_neg (by omega), e7]
    obtain rfl : b = c := by omega
    refine hR 40 b_X11_boards_129 129 _ _ _ o_X11_boards_129 ?_
    simp only [v_opt_n, v_opt_s, v_nil, v_iconst, v_bipush, v_sipush, v_lconst0, v_lconst1, v_ldc, v_ldcw, v_ldc2, v_iload0, v_iload1, v_iload2, v_iload3, v_iload, v_lload0, v_lload1, v_lload2, v_lload3, v_lload, v_aload0, v_aload1, v_aload2, v_aload3, v_aload, v_istore0, v_istore1, v_istore2, v_istore3, v_istore, v_lstore0, v_lstore1, v_lstore2, v_lstore3, v_lstore, v_astore0, v_astore1, v_astore2, v_astore3, v_astore, v_iinc, v_iadd, v_isub, v_imul, v_iand, v_ior, v_ixor, v_ishl, v_ishr, v_iushr, v_ineg, v_idiv, v_irem, v_ladd, v_lsub, v_lmul, v_lcmp, v_i2l, v_l2i, v_i2c, v_dup, v_dup2, v_if_eq, v_if_ne, v_if_lt, v_if_ge, v_if_gt, v_if_le, v_ic_eq, v_ic_ne, v_ic_lt, v_ic_ge, v_ic_gt, v_ic_le, v_goto, v_tsw, v_lsw, v_ireturn, v_areturn, v_return, v_iaload, v_laload, v_baload, v_caload, v_aaload, v_iastore, v_lastore, v_bastore, v_castore, v_alen, v_invvi, v_invst, v_invsp, e_int, e_lng, e_ref, e_lg0, e_lg1, e_lg2, e_lg3, e_lg4, e_lg5, e_lg6, e_lg7, e_lg8, e_lg9, e_lg10, e_lg11, e_lg12, e_lg13, e_clrI, e_clrJ, e_clrP, e_clrN, e_s0, e_s1, e_s2, e_s3, e_s4, e_s5, e_s6, e_s7, e_s8, e_s9, e_s10, e_s11, e_s12, e_s13, e_t0, e_t1, e_t2, e_t3, e_t4, e_t5, e_t6, e_t7, e_t8, e_t9, e_t10, e_t11, e_t12, e_t13, e_fd, e_kk, e_k0, e_k1, e_k2, e_k3, e_k4, e_k5, e_k6, e_k7, e_k8, e_k9, e_sv0, e_sv1, e_sv2, e_sv3, e_svc, e_pf0, e_pf1, e_pf2, e_pf3, e_ar, e_aa, e_al, e_sw1, e_sw2, e_ct0, e_ct1, e_ct2, e_cat0, e_cat1, e_rk0, e_rk1, e_rk2, e_inv0, e_inv1, e_inv2, e_inv3, e_inv4, e_inv5, e_inv6, e_o0, e_o1, e_cl, e_cle, e_cg, e_cge, e_ce, e_cr1, e_cr2, e_r, e_R, e_up, Int.cast_ofNat_Int, u_app, false_and, and_false, e_b0, e_b1, e_bn, e_bl, e_bu, Int.reduceLE, Int.reduceLT, Int.reduceEq, Int.reduceNeg, Int.reduceAdd, Int.reduceSub, Int.reduceMul, Nat.reduceLeDiff, Nat.reduceLT, Nat.reduceAdd, Nat.reduceEqDiff, true_and, and_true, true_or, or_true, false_or, or_false, forall_const, not_true_eq_false, not_false_eq_true, true_implies, false_implies, implies_true, and_self, zero_ne_one, one_ne_zero, eq_self, reduceIte, s2_X11_boards_0, b_X11_boards_0, s2_X11_boards_27, b_X11_boards_27, s2_X11_boards_33, b_X11_boards_33, s2_X11_boards_46, b_X11_boards_46, s2_X11_boards_54, b_X11_boards_54, s2_X11_boards_61, b_X11_boards_61, s2_X11_boards_70, b_X11_boards_70, s2_X11_boards_81, b_X11_boards_81, s2_X11_boards_88, b_X11_boards_88, s2_X11_boards_95, b_X11_boards_95, s2_X11_boards_100, b_X11_boards_100, s2_X11_boards_112, b_X11_boards_112, s2_X11_boards_119, b_X11_boards_119, s2_X11_boards_129, b_X11_boards_129, s2_X11_boards_137, b_X11_boards_137, s2_X11_boards_187, b_X11_boards_187, s2_X11_boards_197, b_X11_boards_197, s2_X11_boards_223, b_X11_boards_223, s2_X11_boards_229, b_X11_boards_229, g_X11_85, p_X11_85, g_X11_224, p_X11_224, g_X11_250, p_X11_250, g_X11_79, p_X11_79, g_X11_269, p_X11_269, g_X11_73, g_X11_239, g_X11_218, p_X11_218, g_X11_125, p_X11_125, g_X11_27, g_X11_58, g_X11_30, g_X11_61, g_X11_33, g_X11_64, g_X11_39, g_X11_70, g_X11_36, g_X11_67, G_X11_boards_254, sp_X11_next_e, G_X11_boards_288, sp_X11_readBoard_e, G_X11_boards_272, sp_X11_isSign_e, G_X11_boards_257, sp_X11_must_e, G_X11_boards_103, sp_X11_answer_e, G_X11_boards_92, sp_X11_staleAll_e, T_103, T_102, T_92, e7, e8]
    refine ⟨by omega, fun _ => ⟨by omega, ?_⟩, fun c1 => absurd (Int.le_refl _) c1⟩
    rw [if_neg (by omega)]
    exact hk μ h2 h3
  | succ n ih =>
    intro b μ l2 h1 h2 h3
    have e7 : μ 85 7 = c := (h2 85 7 (by omega)).trans h7
    obtain ⟨g1, g2, g3, g4, g5⟩ := h0 b (by omega)
    rw [← h2 _ _ (by omega)] at g1 g2 g3 g4
    have hmn := m_mn_b (m_bk T L b)
    refine hR 40 b_X11_boards_129 129 _ _ _ o_X11_boards_129 ?_
    simp only [v_opt_n, v_opt_s, v_nil, v_iconst, v_bipush, v_sipush, v_lconst0, v_lconst1, v_ldc, v_ldcw, v_ldc2, v_iload0, v_iload1, v_iload2, v_iload3, v_iload, v_lload0, v_lload1, v_lload2, v_lload3, v_lload, v_aload0, v_aload1, v_aload2, v_aload3, v_aload, v_istore0, v_istore1, v_istore2, v_istore3, v_istore, v_lstore0, v_lstore1, v_lstore2, v_lstore3, v_lstore, v_astore0, v_astore1, v_astore2, v_astore3, v_astore, v_iinc, v_iadd, v_isub, v_imul, v_iand, v_ior, v_ixor, v_ishl, v_ishr, v_iushr, v_ineg, v_idiv, v_irem, v_ladd, v_lsub, v_lmul, v_lcmp, v_i2l, v_l2i, v_i2c, v_dup, v_dup2, v_if_eq, v_if_ne, v_if_lt, v_if_ge, v_if_gt, v_if_le, v_ic_eq, v_ic_ne, v_ic_lt, v_ic_ge, v_ic_gt, v_ic_le, v_goto, v_tsw, v_lsw, v_ireturn, v_areturn, v_return, v_iaload, v_laload, v_baload, v_caload, v_aaload, v_iastore, v_lastore, v_bastore, v_castore, v_alen, v_invvi, v_invst, v_invsp, e_int, e_lng, e_ref, e_lg0, e_lg1, e_lg2, e_lg3, e_lg4, e_lg5, e_lg6, e_lg7, e_lg8, e_lg9, e_lg10, e_lg11, e_lg12, e_lg13, e_clrI, e_clrJ, e_clrP, e_clrN, e_s0, e_s1, e_s2, e_s3, e_s4, e_s5, e_s6, e_s7, e_s8, e_s9, e_s10, e_s11, e_s12, e_s13, e_t0, e_t1, e_t2, e_t3, e_t4, e_t5, e_t6, e_t7, e_t8, e_t9, e_t10, e_t11, e_t12, e_t13, e_fd, e_kk, e_k0, e_k1, e_k2, e_k3, e_k4, e_k5, e_k6, e_k7, e_k8, e_k9, e_sv0, e_sv1, e_sv2, e_sv3, e_svc, e_pf0, e_pf1, e_pf2, e_pf3, e_ar, e_aa, e_al, e_sw1, e_sw2, e_ct0, e_ct1, e_ct2, e_cat0, e_cat1, e_rk0, e_rk1, e_rk2, e_inv0, e_inv1, e_inv2, e_inv3, e_inv4, e_inv5, e_inv6, e_o0, e_o1, e_cl, e_cle, e_cg, e_cge, e_ce, e_cr1, e_cr2, e_r, e_R, e_up, Int.cast_ofNat_Int, u_app, false_and, and_false, e_b0, e_b1, e_bn, e_bl, e_bu, Int.reduceLE, Int.reduceLT, Int.reduceEq, Int.reduceNeg, Int.reduceAdd, Int.reduceSub, Int.reduceMul, Nat.reduceLeDiff, Nat.reduceLT, Nat.reduceAdd, Nat.reduceEqDiff, true_and, and_true, true_or, or_true, false_or, or_false, forall_const, not_true_eq_false, not_false_eq_true, true_implies, false_implies, implies_true, and_self, zero_ne_one, one_ne_zero, eq_self, reduceIte, s2_X11_boards_0, b_X11_boards_0, s2_X11_boards_27, b_X11_boards_27, s2_X11_boards_33, b_X11_boards_33, s2_X11_boards_46, b_X11_boards_46, s2_X11_boards_54, b_X11_boards_54, s2_X11_boards_61, b_X11_boards_61, s2_X11_boards_70, b_X11_boards_70, s2_X11_boards_81, b_X11_boards_81, s2_X11_boards_88, b_X11_boards_88, s2_X11_boards_95, b_X11_boards_95, s2_X11_boards_100, b_X11_boards_100, s2_X11_boards_112, b_X11_boards_112, s2_X11_boards_119, b_X11_boards_119, s2_X11_boards_129, b_X11_boards_129, s2_X11_boards_137, b_X11_boards_137, s2_X11_boards_187, b_X11_boards_187, s2_X11_boards_197, b_X11_boards_197, s2_X11_boards_223, b_X11_boards_223, s2_X11_boards_229, b_X11_boards_229, g_X11_85, p_X11_85, g_X11_224, p_X11_224, g_X11_250, p_X11_250, g_X11_79, p_X11_79, g_X11_269, p_X11_269, g_X11_73, g_X11_239, g_X11_218, p_X11_218, g_X11_125, p_X11_125, g_X11_27, g_X11_58, g_X11_30, g_X11_61, g_X11_33, g_X11_64, g_X11_39, g_X11_70, g_X11_36, g_X11_67, G_X11_boards_254, sp_X11_next_e, G_X11_boards_288, sp_X11_readBoard_e, G_X11_boards_272, sp_X11_isSign_e, G_X11_boards_257, sp_X11_must_e, G_X11_boards_103, sp_X11_answer_e, G_X11_boards_92, sp_X11_staleAll_e, T_103, T_102, T_92, T_89, T_90, T_91, T_93, T_99, T_100, T_101, e7, g1, g2, g3, g4]
    refine ⟨by omega, fun c1 => by omega, fun c1 => ⟨by omega, by omega, by omega, by omega, by omega, by omega, by omega, by omega, by omega, by omega, by omega, by omega, by omega, by omega, by omega, by omega, ?_⟩⟩
    refine bo_187 (c := c) hR (by omega) (by omega) (by omega) h0 (fun ν l2 f q => ?_) 4 0 _ (by omega) (by omega) (by omega) ?_ ?_ ?_
    · have := ih (b + 1) ν l2 (by omega) f q
      rw [Int.natCast_add] at this
      exact this
    · intro a j n1
      rw [u_app, if_neg (by omega), u_app, if_neg (by omega), u_app, if_neg (by omega), u_app, if_neg (by omega)]
      exact h2 a j n1
    · intro b' hb'
      obtain ⟨d1, d2, d3, d4, d5⟩ := h3 b' hb'
      refine ⟨by rw [u_app, if_neg (by omega), u_app, if_neg (by omega), u_app, if_neg (by omega), u_app, if_neg (by omega)]; exact d1, by rw [u_app, if_neg (by omega), u_app, if_neg (by omega), u_app, if_neg (by omega), u_app, if_neg (by omega)]; exact d2, by rw [u_app, if_neg (by omega), u_app, if_neg (by omega), u_app, if_neg (by omega), u_app, if_neg (by omega)]; exact d3, by rw [u_app, if_neg (by omega), u_app, if_neg (by omega), u_app, if_neg (by omega), u_app, if_neg (by omega)]; exact d4, fun i i0 i1 => by rw [u_app, if_neg (by omega), u_app, if_neg (by omega), u_app, if_neg (by omega), u_app, if_neg (by omega)]; exact d5 i i0 i1⟩
    · refine ⟨by simp [u_app], by simp [u_app], by simp [u_app], by simp [u_app], fun i i0 i1 => by omega⟩
/-- the end of the text -/
theorem bo_100 {Rt : Option QV → QM → Prop} {S : Nat → QL → List QV → QM → Prop} (hR : q_Rule cX11_boards 3 u_X11_boards fl_X11 ld_X11 G_X11_boards q_T 0 s2_X11_boards Rt S) {T : Int → Int} {L : Int} {ν : QM} {l1 : Option QV} {bad : Int} (h37 : ν 85 37 = bad) (hb : bad = 0 ∨ bad = 1) (hk0 : bad = 1 → Rt (some (.inl (-6))) (q_up (q_up ν 85 31 0) 85 1 (-6))) (hk1 : bad = 0 → S 129 [some (.inr (.inr 85)), some (.inl 0), none] [] (q_up (q_up ν 85 31 0) 85 7 (ν 85 23))) : S 100 [some (.inr (.inr 85)), l1, none] [] ν := by
  refine hR 40 b_X11_boards_100 100 _ _ _ o2_X11_boards_100 ?_
  simp only [v_opt_n, v_opt_s, v_nil, v_iconst, v_bipush, v_sipush, v_lconst0, v_lconst1, v_ldc, v_ldcw, v_ldc2, v_iload0, v_iload1, v_iload2, v_iload3, v_iload, v_lload0, v_lload1, v_lload2, v_lload3, v_lload, v_aload0, v_aload1, v_aload2, v_aload3, v_aload, v_istore0, v_istore1, v_istore2, v_istore3, v_istore, v_lstore0, v_lstore1, v_lstore2, v_lstore3, v_lstore, v_astore0, v_astore1, v_astore2, v_astore3, v_astore, v_iinc, v_iadd, v_isub, v_imul, v_iand, v_ior, v_ixor, v_ishl, v_ishr, v_iushr, v_ineg, v_idiv, v_irem, v_ladd, v_lsub, v_lmul, v_lcmp, v_i2l, v_l2i, v_i2c, v_dup, v_dup2, v_if_eq, v_if_ne, v_if_lt, v_if_ge, v_if_gt, v_if_le, v_ic_eq, v_ic_ne, v_ic_lt, v_ic_ge, v_ic_gt, v_ic_le, v_goto, v_tsw, v_lsw, v_ireturn, v_areturn, v_return, v_iaload, v_laload, v_baload, v_caload, v_aaload, v_iastore, v_lastore, v_bastore, v_castore, v_alen, v_invvi, v_invst, v_invsp, e_int, e_lng, e_ref, e_lg0, e_lg1, e_lg2, e_lg3, e_lg4, e_lg5, e_lg6, e_lg7, e_lg8, e_lg9, e_lg10, e_lg11, e_lg12, e_lg13, e_clrI, e_clrJ, e_clrP, e_clrN, e_s0, e_s1, e_s2, e_s3, e_s4, e_s5, e_s6, e_s7, e_s8, e_s9, e_s10, e_s11, e_s12, e_s13, e_t0, e_t1, e_t2, e_t3, e_t4, e_t5, e_t6, e_t7, e_t8, e_t9, e_t10, e_t11, e_t12, e_t13, e_fd, e_kk, e_k0, e_k1, e_k2, e_k3, e_k4, e_k5, e_k6, e_k7, e_k8, e_k9, e_sv0, e_sv1, e_sv2, e_sv3, e_svc, e_pf0, e_pf1, e_pf2, e_pf3, e_ar, e_aa, e_al, e_sw1, e_sw2, e_ct0, e_ct1, e_ct2, e_cat0, e_cat1, e_rk0, e_rk1, e_rk2, e_inv0, e_inv1, e_inv2, e_inv3, e_inv4, e_inv5, e_inv6, e_o0, e_o1, e_cl, e_cle, e_cg, e_cge, e_ce, e_cr1, e_cr2, e_r, e_R, e_up, Int.cast_ofNat_Int, u_app, false_and, and_false, e_b0, e_b1, e_bn, e_bl, e_bu, Int.reduceLE, Int.reduceLT, Int.reduceEq, Int.reduceNeg, Int.reduceAdd, Int.reduceSub, Int.reduceMul, Nat.reduceLeDiff, Nat.reduceLT, Nat.reduceAdd, Nat.reduceEqDiff, true_and, and_true, true_or, or_true, false_or, or_false, forall_const, not_true_eq_false, not_false_eq_true, true_implies, false_implies, implies_true, and_self, zero_ne_one, one_ne_zero, eq_self, reduceIte, s2_X11_boards_0, b_X11_boards_0, s2_X11_boards_27, b_X11_boards_27, s2_X11_boards_33, b_X11_boards_33, s2_X11_boards_46, b_X11_boards_46, s2_X11_boards_54, b_X11_boards_54, s2_X11_boards_61, b_X11_boards_61, s2_X11_boards_70, b_X11_boards_70, s2_X11_boards_81, b_X11_boards_81, s2_X11_boards_88, b_X11_boards_88, s2_X11_boards_95, b_X11_boards_95, s2_X11_boards_100, b_X11_boards_100, s2_X11_boards_112, b_X11_boards_112, s2_X11_boards_119, b_X11_boards_119, s2_X11_boards_129, b_X11_boards_129, s2_X11_boards_137, b_X11_boards_137, s2_X11_boards_187, b_X11_boards_187, s2_X11_boards_197, b_X11_boards_197, s2_X11_boards_223, b_X11_boards_223, s2_X11_boards_229, b_X11_boards_229, g_X11_85, p_X11_85, g_X11_224, p_X11_224, g_X11_250, p_X11_250, g_X11_79, p_X11_79, g_X11_269, p_X11_269, g_X11_73, g_X11_239, g_X11_218, p_X11_218, g_X11_125, p_X11_125, g_X11_27, g_X11_58, g_X11_30, g_X11_61, g_X11_33, g_X11_64, g_X11_39, g_X11_70, g_X11_36, g_X11_67, G_X11_boards_254, sp_X11_next_e, G_X11_boards_288, sp_X11_readBoard_e, G_X11_boards_272, sp_X11_isSign_e, G_X11_boards_257, sp_X11_must_e, G_X11_boards_103, sp_X11_answer_e, G_X11_boards_92, sp_X11_staleAll_e, h37]
  exact ⟨by omega, fun c => hk1 c, fun c => hk0 (by omega)⟩
theorem bo_81 {Rt : Option QV → QM → Prop} {S : Nat → QL → List QV → QM → Prop} (hR : q_Rule cX11_boards 3 u_X11_boards fl_X11 ld_X11 G_X11_boards q_T 0 s2_X11_boards Rt S) {T : Int → Int} {L : Int} {μ ν : QM} {l1 : Option QV} (ht : m_tp T L) {N : Nat} (hn : N ≤ 10) (hg : ¬ m_good T L N) (haf : m_af T L μ N ν) (hT : μ 105 = T) (hL : μ 85 31 = L) (hk : ∀ ν : QM, m_fe μ ν → (¬ ((m_rs T L N).1 = 0 ∧ m_kd T L (m_rs T L N).2 = 0) → ν 85 36 = m_pl T L (m_rs T L N).2 → ν 85 1 = -6 → (∀ a j : Int, 89 ≤ a ∧ a ≤ 94 ∨ a = 85 ∧ j = 7 → ν a j = μ a j) → Rt (some (.inl (-6))) ν) ∧ ((m_rs T L N).1 = 0 ∧ m_kd T L (m_rs T L N).2 = 0 → ν 85 36 = -1 → ν 85 1 = 0 → ν 85 7 = N + 1 → m_bt T L 89 90 91 93 92 (N + 1) ν → (∀ j : Int, ν 94 j = if 0 ≤ j ∧ j < 90 then 0 else μ 94 j) → Rt (some (.inl (N + 1))) ν)) : S 81 [some (.inr (.inr 85)), l1, none] [] ν := by
  obtain ⟨hp, hf, hs⟩ := haf
  obtain ⟨p1, p2, p3, p4, p5, p6, p7, p8, p9⟩ := id hp
  have hbb := m_tk_b ht (m_rs T L N).2
  have hx := m_tk_k T L (m_rs T L N).2
  have kb : ∀ ν1 : QM, (∀ a j : Int, ¬ (a = 85 ∧ 32 ≤ j ∧ j ≤ 37) → ν1 a j = ν a j) → ¬ ((m_rs T L N).1 = 0 ∧ m_kd T L (m_rs T L N).2 = 0) → ν1 85 36 = m_pl T L (m_rs T L N).2 → Rt (some (.inl (-6))) (q_up (q_up ν1 85 31 0) 85 1 (-6)) := fun ν1 f1 n1 e36 => by
    refine (hk _ ⟨fun a j n1 n2 n3 n4 => ?_, ?_, ?_, fun j hj => ?_⟩).1 n1 ?_ ?_ ?_
    · rw [u_app, if_neg (by omega), u_app, if_neg (by omega), f1 a j (by omega)]
      exact hf.1 a j (by omega) n3 n4
    · rw [u_app, if_neg (by omega), u_app, if_neg (by omega), f1 _ _ (by omega)]
      exact hf.2.1
    · rw [u_app, if_neg (by omega), u_app, if_pos ⟨rfl, rfl⟩]
    · rw [u_app, if_neg (by omega), u_app, if_neg (by omega), f1 _ _ (by omega)]
      exact hf.2.2 j hj
    · rw [u_app, if_neg (by omega), u_app, if_neg (by omega)]
      exact e36
    · rw [u_app, if_pos ⟨rfl, rfl⟩]
    · intro a j n
      rw [u_app, if_neg (by omega), u_app, if_neg (by omega), f1 _ _ (by omega)]
      exact hf.1 a j (by omega) (by omega) (by omega)
  refine hR 40 b_X11_boards_81 81 _ _ _ o2_X11_boards_81 ?_
  simp only [v_opt_n, v_opt_s, v_nil, v_iconst, v_bipush, v_sipush, v_lconst0, v_lconst1, v_ldc, v_ldcw, v_ldc2, v_iload0, v_iload1, v_iload2, v_iload3, v_iload, v_lload0, v_lload1, v_lload2, v_lload3, v_lload, v_aload0, v_aload1, v_aload2, v_aload3, v_aload, v_istore0, v_istore1, v_istore2, v_istore3, v_istore, v_lstore0, v_lstore1, v_lstore2, v_lstore3, v_lstore, v_astore0, v_astore1, v_astore2, v_astore3, v_astore, v_iinc, v_iadd, v_isub, v_imul, v_iand, v_ior, v_ixor, v_ishl, v_ishr, v_iushr, v_ineg, v_idiv, v_irem, v_ladd, v_lsub, v_lmul, v_lcmp, v_i2l, v_l2i, v_i2c, v_dup, v_dup2, v_if_eq, v_if_ne, v_if_lt, v_if_ge, v_if_gt, v_if_le, v_ic_eq, v_ic_ne, v_ic_lt, v_ic_ge, v_ic_gt, v_ic_le, v_goto, v_tsw, v_lsw, v_ireturn, v_areturn, v_return, v_iaload, v_laload, v_baload, v_caload, v_aaload, v_iastore, v_lastore, v_bastore, v_castore, v_alen, v_invvi, v_invst, v_invsp, e_int, e_lng, e_ref, e_lg0, e_lg1, e_lg2, e_lg3, e_lg4, e_lg5, e_lg6, e_lg7, e_lg8, e_lg9, e_lg10, e_lg11, e_lg12, e_lg13, e_clrI, e_clrJ, e_clrP, e_clrN, e_s0, e_s1, e_s2, e_s3, e_s4, e_s5, e_s6, e_s7, e_s8, e_s9, e_s10, e_s11, e_s12, e_s13, e_t0, e_t1, e_t2, e_t3, e_t4, e_t5, e_t6, e_t7, e_t8, e_t9, e_t10, e_t11, e_t12, e_t13, e_fd, e_kk, e_k0, e_k1, e_k2, e_k3, e_k4, e_k5, e_k6, e_k7, e_k8, e_k9, e_sv0, e_sv1, e_sv2, e_sv3, e_svc, e_pf0, e_pf1, e_pf2, e_pf3, e_ar, e_aa, e_al, e_sw1, e_sw2, e_ct0, e_ct1, e_ct2, e_cat0, e_cat1, e_rk0, e_rk1, e_rk2, e_inv0, e_inv1, e_inv2, e_inv3, e_inv4, e_inv5, e_inv6, e_o0, e_o1, e_cl, e_cle, e_cg, e_cge, e_ce, e_cr1, e_cr2, e_r, e_R, e_up, Int.cast_ofNat_Int, u_app, false_and, and_false, e_b0, e_b1, e_bn, e_bl, e_bu, Int.reduceLE, Int.reduceLT, Int.reduceEq, Int.reduceNeg, Int.reduceAdd, Int.reduceSub, Int.reduceMul, Nat.reduceLeDiff, Nat.reduceLT, Nat.reduceAdd, Nat.reduceEqDiff, true_and, and_true, true_or, or_true, false_or, or_false, forall_const, not_true_eq_false, not_false_eq_true, true_implies, false_implies, implies_true, and_self, zero_ne_one, one_ne_zero, eq_self, reduceIte, s2_X11_boards_0, b_X11_boards_0, s2_X11_boards_27, b_X11_boards_27, s2_X11_boards_33, b_X11_boards_33, s2_X11_boards_46, b_X11_boards_46, s2_X11_boards_54, b_X11_boards_54, s2_X11_boards_61, b_X11_boards_61, s2_X11_boards_70, b_X11_boards_70, s2_X11_boards_81, b_X11_boards_81, s2_X11_boards_88, b_X11_boards_88, s2_X11_boards_95, b_X11_boards_95, s2_X11_boards_100, b_X11_boards_100, s2_X11_boards_112, b_X11_boards_112, s2_X11_boards_119, b_X11_boards_119, s2_X11_boards_129, b_X11_boards_129, s2_X11_boards_137, b_X11_boards_137, s2_X11_boards_187, b_X11_boards_187, s2_X11_boards_197, b_X11_boards_197, s2_X11_boards_223, b_X11_boards_223, s2_X11_boards_229, b_X11_boards_229, g_X11_85, p_X11_85, g_X11_224, p_X11_224, g_X11_250, p_X11_250, g_X11_79, p_X11_79, g_X11_269, p_X11_269, g_X11_73, g_X11_239, g_X11_218, p_X11_218, g_X11_125, p_X11_125, g_X11_27, g_X11_58, g_X11_30, g_X11_61, g_X11_33, g_X11_64, g_X11_39, g_X11_70, g_X11_36, g_X11_67, G_X11_boards_254, sp_X11_next_e, G_X11_boards_288, sp_X11_readBoard_e, G_X11_boards_272, sp_X11_isSign_e, G_X11_boards_257, sp_X11_must_e, G_X11_boards_103, sp_X11_answer_e, G_X11_boards_92, sp_X11_staleAll_e, p3, p8]
  refine ⟨by omega, fun c => bo_100 (T := T) (L := L) hR p3 p4 (fun _ => kb ν (fun _ _ _ => rfl) (fun q => c q.1) (by rw [p5, if_pos (by omega)])) (fun c2 => absurd c2 c), fun c => ⟨by omega, fun c1 => bo_100 (T := T) (L := L) hR p3 p4 (fun _ => by omega) (fun _ => ?_), fun c1 => ⟨T, L, m_rs T L N, ht, hp, fun ν1 f1 q1 => ?_⟩⟩⟩
  · obtain ⟨s1, s2, s3⟩ := hs c
    have hN : N + 1 ≤ 10 := by
      by_cases c3 : N = 10
      · subst c3
        have h2 : (m_rs T L 10).1 = 1 := m_h1_10 T L _ _ _ (by decide)
        omega
      · omega
    have := bo_129 (T := T) (L := L) (ν0 := q_up (q_up ν 85 31 0) 85 7 (ν 85 23)) (c := N + 1) hR hN ?_ ?_ ?_ (N + 1) 0 _ none (by omega) (fun _ _ _ => rfl) (fun b hb => by omega)
    · exact this
    · intro b hb
      obtain ⟨d1, d2, d3, d4, d5⟩ := s2 b hb
      refine ⟨by rw [u_app, if_neg (by omega), u_app, if_neg (by omega)]; exact d1, by rw [u_app, if_neg (by omega), u_app, if_neg (by omega)]; exact d2, by rw [u_app, if_neg (by omega), u_app, if_neg (by omega)]; exact d3, by rw [u_app, if_neg (by omega), u_app, if_neg (by omega)]; exact d4, fun i i0 i1 => by rw [u_app, if_neg (by omega), u_app, if_neg (by omega)]; exact d5 i i0 i1⟩
    · rw [u_app, if_pos ⟨rfl, rfl⟩, s1]
      omega
    · intro ν' f' b'
      have e : ∀ a j : Int, ¬ (89 ≤ a ∧ a ≤ 94) → ¬ (a = 85 ∧ (j = 1 ∨ j = 7 ∨ j = 31)) → q_up (q_fill ν' 94 0 90 0) 85 1 0 a j = ν a j := fun a j n1 n2 => by
        rw [u_app, if_neg (by omega), u_fill, if_neg (by omega), f' a j (by omega), u_app, if_neg (by omega), u_app, if_neg (by omega)]
      have := (hk (q_up (q_fill ν' 94 0 90 0) 85 1 0) ⟨fun a j n1 n2 n3 n4 => ?_, ?_, ?_, fun j hj => ?_⟩).2 ⟨c, by omega⟩ ?_ ?_ ?_ ?_ ?_
      · rw [Int.natCast_add]
        exact this
      · rw [e a j n2 (by omega)]
        exact hf.1 a j (by omega) n3 n4
      · rw [e _ _ (by omega) (by omega)]
        exact hf.2.1
      · rw [u_app, if_neg (by omega), u_fill, if_neg (by omega), f' _ _ (by omega), u_app, if_neg (by omega), u_app, if_pos ⟨rfl, rfl⟩]
      · rw [e _ _ (by omega) (by omega)]
        exact hf.2.2 j hj
      · rw [e _ _ (by omega) (by omega), p5, if_neg (by omega)]
      · rw [u_app, if_pos ⟨rfl, rfl⟩]
      · rw [u_app, if_neg (by omega), u_fill, if_neg (by omega), f' _ _ (by omega), u_app, if_pos ⟨rfl, rfl⟩, s1]
      · intro b hb
        obtain ⟨d1, d2, d3, d4, d5⟩ := b' b hb
        refine ⟨by rw [u_app, if_neg (by omega), u_fill, if_neg (by omega)]; exact d1, by rw [u_app, if_neg (by omega), u_fill, if_neg (by omega)]; exact d2, by rw [u_app, if_neg (by omega), u_fill, if_neg (by omega)]; exact d3, by rw [u_app, if_neg (by omega), u_fill, if_neg (by omega)]; exact d4, fun i i0 i1 => by rw [u_app, if_neg (by omega), u_fill, if_neg (by omega)]; exact d5 i i0 i1⟩
      · intro j
        rw [u_app, if_neg (by omega), u_fill]
        by_cases c3 : 0 ≤ j ∧ j < 90
        · rw [if_pos ⟨rfl, c3⟩, if_pos c3]
        · rw [if_neg (by omega), if_neg c3, f' _ _ (by omega), u_app, if_neg (by omega), u_app, if_neg (by omega)]
          exact hf.1 94 j (by omega) (by omega) (by omega)
  · have e : m_ms (m_rs T L N) 0 = (1, (m_rs T L N).2) := by
      unfold m_ms
      rw [if_neg (by omega), if_neg (by decide)]
    rw [e] at q1
    exact bo_100 (T := T) (L := L) hR q1.2.2.1 (Or.inr rfl) (fun _ => kb ν1 f1 (by omega) (by rw [q1.2.2.2.2.1, if_pos rfl])) (fun c2 => absurd (show (1 : Int) = 0 from c2) (by decide))
theorem bo_54 {Rt : Option QV → QM → Prop} {S : Nat → QL → List QV → QM → Prop} (hR : q_Rule cX11_boards 3 u_X11_boards fl_X11 ld_X11 G_X11_boards q_T 0 s2_X11_boards Rt S) {T : Int → Int} {L : Int} {μ0 : QM} (ht : m_tp T L) {N : Nat} (hr : m_run T L N) (hk : ∀ (ν : QM) (l1 : Option QV), m_af T L μ0 N ν → S 81 [some (.inr (.inr 85)), l1, none] [] ν) : ∀ (n m : Nat) (ν : QM) (l1 : Option QV), m + n = N → m_af T L μ0 m ν → S 54 [some (.inr (.inr 85)), l1, none] [] ν := by
  intro n
  induction n with
  | zero =>
    intro m ν l1 h1 h2
    obtain rfl : m = N := by omega
    have hng := hr.2
    obtain ⟨p1, p2, p3, p4, p5, p6, p7, p8, p9⟩ := id h2.1
    have hbb := m_tk_b ht (m_rs T L m).2
    have hsg := m_sgn ht (m_rs T L m).2 59
    refine hR 40 b_X11_boards_54 54 _ _ _ o_X11_boards_54 ?_
    simp only [v_opt_n, v_opt_s, v_nil, v_iconst, v_bipush, v_sipush, v_lconst0, v_lconst1, v_ldc, v_ldcw, v_ldc2, v_iload0, v_iload1, v_iload2, v_iload3, v_iload, v_lload0, v_lload1, v_lload2, v_lload3, v_lload, v_aload0, v_aload1, v_aload2, v_aload3, v_aload, v_istore0, v_istore1, v_istore2, v_istore3, v_istore, v_lstore0, v_lstore1, v_lstore2, v_lstore3, v_lstore, v_astore0, v_astore1, v_astore2, v_astore3, v_astore, v_iinc, v_iadd, v_isub, v_imul, v_iand, v_ior, v_ixor, v_ishl, v_ishr, v_iushr, v_ineg, v_idiv, v_irem, v_ladd, v_lsub, v_lmul, v_lcmp, v_i2l, v_l2i, v_i2c, v_dup, v_dup2, v_if_eq, v_if_ne, v_if_lt, v_if_ge, v_if_gt, v_if_le, v_ic_eq, v_ic_ne, v_ic_lt, v_ic_ge, v_ic_gt, v_ic_le, v_goto, v_tsw, v_lsw, v_ireturn, v_areturn, v_return, v_iaload, v_laload, v_baload, v_caload, v_aaload, v_iastore, v_lastore, v_bastore, v_castore, v_alen, v_invvi, v_invst, v_invsp, e_int, e_lng, e_ref, e_lg0, e_lg1, e_lg2, e_lg3, e_lg4, e_lg5, e_lg6, e_lg7, e_lg8, e_lg9, e_lg10, e_lg11, e_lg12, e_lg13, e_clrI, e_clrJ, e_clrP, e_clrN, e_s0, e_s1, e_s2, e_s3, e_s4, e_s5, e_s6, e_s7, e_s8, e_s9, e_s10, e_s11, e_s12, e_s13, e_t0, e_t1, e_t2, e_t3, e_t4, e_t5, e_t6, e_t7, e_t8, e_t9, e_t10, e_t11, e_t12, e_t13, e_fd, e_kk, e_k0, e_k1, e_k2, e_k3, e_k4, e_k5, e_k6, e_k7, e_k8, e_k9, e_sv0, e_sv1, e_sv2, e_sv3, e_svc, e_pf0, e_pf1, e_pf2, e_pf3, e_ar, e_aa, e_al, e_sw1, e_sw2, e_ct0, e_ct1, e_ct2, e_cat0, e_cat1, e_rk0, e_rk1, e_rk2, e_inv0, e_inv1, e_inv2, e_inv3, e_inv4, e_inv5, e_inv6, e_o0, e_o1, e_cl, e_cle, e_cg, e_cge, e_ce, e_cr1, e_cr2, e_r, e_R, e_up, Int.cast_ofNat_Int, u_app, false_and, and_false, e_b0, e_b1, e_bn, e_bl, e_bu, Int.reduceLE, Int.reduceLT, Int.reduceEq, Int.reduceNeg, Int.reduceAdd, Int.reduceSub, Int.reduceMul, Nat.reduceLeDiff, Nat.reduceLT, Nat.reduceAdd, Nat.reduceEqDiff, true_and, and_true, true_or, or_true, false_or, or_false, forall_const, not_true_eq_false, not_false_eq_true, true_implies, false_implies, implies_true, and_self, zero_ne_one, one_ne_zero, eq_self, reduceIte, s2_X11_boards_0, b_X11_boards_0, s2_X11_boards_27, b_X11_boards_27, s2_X11_boards_33, b_X11_boards_33, s2_X11_boards_46, b_X11_boards_46, s2_X11_boards_54, b_X11_boards_54, s2_X11_boards_61, b_X11_boards_61, s2_X11_boards_70, b_X11_boards_70, s2_X11_boards_81, b_X11_boards_81, s2_X11_boards_88, b_X11_boards_88, s2_X11_boards_95, b_X11_boards_95, s2_X11_boards_100, b_X11_boards_100, s2_X11_boards_112, b_X11_boards_112, s2_X11_boards_119, b_X11_boards_119, s2_X11_boards_129, b_X11_boards_129, s2_X11_boards_137, b_X11_boards_137, s2_X11_boards_187, b_X11_boards_187, s2_X11_boards_197, b_X11_boards_197, s2_X11_boards_223, b_X11_boards_223, s2_X11_boards_229, b_X11_boards_229, g_X11_85, p_X11_85, g_X11_224, p_X11_224, g_X11_250, p_X11_250, g_X11_79, p_X11_79, g_X11_269, p_X11_269, g_X11_73, g_X11_239, g_X11_218, p_X11_218, g_X11_125, p_X11_125, g_X11_27, g_X11_58, g_X11_30, g_X11_61, g_X11_33, g_X11_64, g_X11_39, g_X11_70, g_X11_36, g_X11_67, G_X11_boards_254, sp_X11_next_e, G_X11_boards_288, sp_X11_readBoard_e, G_X11_boards_272, sp_X11_isSign_e, G_X11_boards_257, sp_X11_must_e, G_X11_boards_103, sp_X11_answer_e, G_X11_boards_92, sp_X11_staleAll_e, p3, p8, p9]
    refine ⟨by omega, fun _ => hk ν l1 h2, fun c => ⟨by omega, fun _ => hk ν l1 h2, fun c2 => absurd ⟨c, hsg.mp (Classical.not_not.mp c2)⟩ hng⟩⟩
  | succ n ih =>
    intro m ν l1 h1 h2
    obtain ⟨hp, hf, hs⟩ := id h2
    obtain ⟨p1, p2, p3, p4, p5, p6, p7, p8, p9⟩ := id hp
    have hg := hr.1 m (by omega)
    have hN := m_run_le hr
    have hbb := m_tk_b ht (m_rs T L m).2
    have hsg := m_sgn ht (m_rs T L m).2 59
    obtain ⟨s1, s2, s3⟩ := hs hg.1
    have htp := m_ps_tap ht hp
    have e : m_rs T L m = (0, (m_rs T L m).2) := by
      have := hg.1
      exact Prod.ext this rfl
    refine hR 40 b_X11_boards_54 54 _ _ _ o_X11_boards_54 ?_
    simp only [v_opt_n, v_opt_s, v_nil, v_iconst, v_bipush, v_sipush, v_lconst0, v_lconst1, v_ldc, v_ldcw, v_ldc2, v_iload0, v_iload1, v_iload2, v_iload3, v_iload, v_lload0, v_lload1, v_lload2, v_lload3, v_lload, v_aload0, v_aload1, v_aload2, v_aload3, v_aload, v_istore0, v_istore1, v_istore2, v_istore3, v_istore, v_lstore0, v_lstore1, v_lstore2, v_lstore3, v_lstore, v_astore0, v_astore1, v_astore2, v_astore3, v_astore, v_iinc, v_iadd, v_isub, v_imul, v_iand, v_ior, v_ixor, v_ishl, v_ishr, v_iushr, v_ineg, v_idiv, v_irem, v_ladd, v_lsub, v_lmul, v_lcmp, v_i2l, v_l2i, v_i2c, v_dup, v_dup2, v_if_eq, v_if_ne, v_if_lt, v_if_ge, v_if_gt, v_if_le, v_ic_eq, v_ic_ne, v_ic_lt, v_ic_ge, v_ic_gt, v_ic_le, v_goto, v_tsw, v_lsw, v_ireturn, v_areturn, v_return, v_iaload, v_laload, v_baload, v_caload, v_aaload, v_iastore, v_lastore, v_bastore, v_castore, v_alen, v_invvi, v_invst, v_invsp, e_int, e_lng, e_ref, e_lg0, e_lg1, e_lg2, e_lg3, e_lg4, e_lg5, e_lg6, e_lg7, e_lg8, e_lg9, e_lg10, e_lg11, e_lg12, e_lg13, e_clrI, e_clrJ, e_clrP, e_clrN, e_s0, e_s1, e_s2, e_s3, e_s4, e_s5, e_s6, e_s7, e_s8, e_s9, e_s10, e_s11, e_s12, e_s13, e_t0, e_t1, e_t2, e_t3, e_t4, e_t5, e_t6, e_t7, e_t8, e_t9, e_t10, e_t11, e_t12, e_t13, e_fd, e_kk, e_k0, e_k1, e_k2, e_k3, e_k4, e_k5, e_k6, e_k7, e_k8, e_k9, e_sv0, e_sv1, e_sv2, e_sv3, e_svc, e_pf0, e_pf1, e_pf2, e_pf3, e_ar, e_aa, e_al, e_sw1, e_sw2, e_ct0, e_ct1, e_ct2, e_cat0, e_cat1, e_rk0, e_rk1, e_rk2, e_inv0, e_inv1, e_inv2, e_inv3, e_inv4, e_inv5, e_inv6, e_o0, e_o1, e_cl, e_cle, e_cg, e_cge, e_ce, e_cr1, e_cr2, e_r, e_R, e_up, Int.cast_ofNat_Int, u_app, false_and, and_false, e_b0, e_b1, e_bn, e_bl, e_bu, Int.reduceLE, Int.reduceLT, Int.reduceEq, Int.reduceNeg, Int.reduceAdd, Int.reduceSub, Int.reduceMul, Nat.reduceLeDiff, Nat.reduceLT, Nat.reduceAdd, Nat.reduceEqDiff, true_and, and_true, true_or, or_true, false_or, or_false, forall_const, not_true_eq_false, not_false_eq_true, true_implies, false_implies, implies_true, and_self, zero_ne_one, one_ne_zero, eq_self, reduceIte, s2_X11_boards_0, b_X11_boards_0, s2_X11_boards_27, b_X11_boards_27, s2_X11_boards_33, b_X11_boards_33, s2_X11_boards_46, b_X11_boards_46, s2_X11_boards_54, b_X11_boards_54, s2_X11_boards_61, b_X11_boards_61, s2_X11_boards_70, b_X11_boards_70, s2_X11_boards_81, b_X11_boards_81, s2_X11_boards_88, b_X11_boards_88, s2_X11_boards_95, b_X11_boards_95, s2_X11_boards_100, b_X11_boards_100, s2_X11_boards_112, b_X11_boards_112, s2_X11_boards_119, b_X11_boards_119, s2_X11_boards_129, b_X11_boards_129, s2_X11_boards_137, b_X11_boards_137, s2_X11_boards_187, b_X11_boards_187, s2_X11_boards_197, b_X11_boards_197, s2_X11_boards_223, b_X11_boards_223, s2_X11_boards_229, b_X11_boards_229, g_X11_85, p_X11_85, g_X11_224, p_X11_224, g_X11_250, p_X11_250, g_X11_79, p_X11_79, g_X11_269, p_X11_269, g_X11_73, g_X11_239, g_X11_218, p_X11_218, g_X11_125, p_X11_125, g_X11_27, g_X11_58, g_X11_30, g_X11_61, g_X11_33, g_X11_64, g_X11_39, g_X11_70, g_X11_36, g_X11_67, G_X11_boards_254, sp_X11_next_e, G_X11_boards_288, sp_X11_readBoard_e, G_X11_boards_272, sp_X11_isSign_e, G_X11_boards_257, sp_X11_must_e, G_X11_boards_103, sp_X11_answer_e, G_X11_boards_92, sp_X11_staleAll_e, p3, p8, p9]
    refine ⟨by omega, fun c => absurd hg.1 c, fun c => ⟨by omega, fun c2 => absurd (hsg.mpr hg.2) c2, fun _ => ⟨htp.1, htp.2, ?_⟩⟩⟩
    rw [e] at hp
    obtain ⟨q1, q2⟩ := m_nxt_ps hp
    refine bo_rd (m := m + 1) ht q1 ?_ (by omega) ?_ (fun b hb => ?_) ⟨fun a j n1 n2 n3 => ?_, ?_, fun j hj => ?_⟩ (fun ν' q => ih (m + 1) ν' l1 (by omega) q)
    · rw [q2 85 23 (by omega), s1]
      omega
    · funext j
      rw [q2 104 j (by omega)]
      exact s3 j
    · obtain ⟨d1, d2, d3, d4, d5⟩ := s2 b hb
      refine ⟨by rw [q2 _ _ (by omega)]; exact d1, by rw [q2 _ _ (by omega)]; exact d2, by rw [q2 _ _ (by omega)]; exact d3, by rw [q2 _ _ (by omega)]; exact d4, fun i i0 i1 => by rw [q2 _ _ (by omega)]; exact d5 i i0 i1⟩
    · rw [q2 a j (by omega)]
      exact hf.1 a j n1 n2 n3
    · rw [q2 85 0 (by omega)]
      exact hf.2.1
    · rw [q2 104 j (by omega)]
      exact hf.2.2 j hj
set_option maxRecDepth 100000 in
set_option maxHeartbeats 4000000 in
theorem B_X11_boards : q_Body cX11_boards 3 u_X11_boards fl_X11 ld_X11 G_X11_boards q_T 0 s2_X11_boards sp_X11_boards := by
  intro S Rt hR ra μ h
  obtain ⟨this, rfl, h⟩ := sp_X11_boards_i h
  refine ⟨by simp [q_sl, q_ct], ?_⟩
  show S 0 [some (.inr (.inr this)), none, none] [] μ
  obtain ⟨rfl, h1, h2, N, h3, hk⟩ := h
  refine hR 40 [] 0 _ _ _ rfl ?_
  simp only [v_opt_n, v_opt_s, v_nil, v_iconst, v_bipush, v_sipush, v_lconst0, v_lconst1, v_ldc, v_ldcw, v_ldc2, v_iload0, v_iload1, v_iload2, v_iload3, v_iload, v_lload0, v_lload1, v_lload2, v_lload3, v_lload, v_aload0, v_aload1, v_aload2, v_aload3, v_aload, v_istore0, v_istore1, v_istore2, v_istore3, v_istore, v_lstore0, v_lstore1, v_lstore2, v_lstore3, v_lstore, v_astore0, v_astore1, v_astore2, v_astore3, v_astore, v_iinc, v_iadd, v_isub, v_imul, v_iand, v_ior, v_ixor, v_ishl, v_ishr, v_iushr, v_ineg, v_idiv, v_irem, v_ladd, v_lsub, v_lmul, v_lcmp, v_i2l, v_l2i, v_i2c, v_dup, v_dup2, v_if_eq, v_if_ne, v_if_lt, v_if_ge, v_if_gt, v_if_le, v_ic_eq, v_ic_ne, v_ic_lt, v_ic_ge, v_ic_gt, v_ic_le, v_goto, v_tsw, v_lsw, v_ireturn, v_areturn, v_return, v_iaload, v_laload, v_baload, v_caload, v_aaload, v_iastore, v_lastore, v_bastore, v_castore, v_alen, v_invvi, v_invst, v_invsp, e_int, e_lng, e_ref, e_lg0, e_lg1, e_lg2, e_lg3, e_lg4, e_lg5, e_lg6, e_lg7, e_lg8, e_lg9, e_lg10, e_lg11, e_lg12, e_lg13, e_clrI, e_clrJ, e_clrP, e_clrN, e_s0, e_s1, e_s2, e_s3, e_s4, e_s5, e_s6, e_s7, e_s8, e_s9, e_s10, e_s11, e_s12, e_s13, e_t0, e_t1, e_t2, e_t3, e_t4, e_t5, e_t6, e_t7, e_t8, e_t9, e_t10, e_t11, e_t12, e_t13, e_fd, e_kk, e_k0, e_k1, e_k2, e_k3, e_k4, e_k5, e_k6, e_k7, e_k8, e_k9, e_sv0, e_sv1, e_sv2, e_sv3, e_svc, e_pf0, e_pf1, e_pf2, e_pf3, e_ar, e_aa, e_al, e_sw1, e_sw2, e_ct0, e_ct1, e_ct2, e_cat0, e_cat1, e_rk0, e_rk1, e_rk2, e_inv0, e_inv1, e_inv2, e_inv3, e_inv4, e_inv5, e_inv6, e_o0, e_o1, e_cl, e_cle, e_cg, e_cge, e_ce, e_cr1, e_cr2, e_r, e_R, e_up, Int.cast_ofNat_Int, u_app, false_and, and_false, e_b0, e_b1, e_bn, e_bl, e_bu, Int.reduceLE, Int.reduceLT, Int.reduceEq, Int.reduceNeg, Int.reduceAdd, Int.reduceSub, Int.reduceMul, Nat.reduceLeDiff, Nat.reduceLT, Nat.reduceAdd, Nat.reduceEqDiff, true_and, and_true, true_or, or_true, false_or, or_false, forall_const, not_true_eq_false, not_false_eq_true, true_implies, false_implies, implies_true, and_self, zero_ne_one, one_ne_zero, eq_self, reduceIte, s2_X11_boards_0, b_X11_boards_0, s2_X11_boards_27, b_X11_boards_27, s2_X11_boards_33, b_X11_boards_33, s2_X11_boards_46, b_X11_boards_46, s2_X11_boards_54, b_X11_boards_54, s2_X11_boards_61, b_X11_boards_61, s2_X11_boards_70, b_X11_boards_70, s2_X11_boards_81, b_X11_boards_81, s2_X11_boards_88, b_X11_boards_88, s2_X11_boards_95, b_X11_boards_95, s2_X11_boards_100, b_X11_boards_100, s2_X11_boards_112, b_X11_boards_112, s2_X11_boards_119, b_X11_boards_119, s2_X11_boards_129, b_X11_boards_129, s2_X11_boards_137, b_X11_boards_137, s2_X11_boards_187, b_X11_boards_187, s2_X11_boards_197, b_X11_boards_197, s2_X11_boards_223, b_X11_boards_223, s2_X11_boards_229, b_X11_boards_229, g_X11_85, p_X11_85, g_X11_224, p_X11_224, g_X11_250, p_X11_250, g_X11_79, p_X11_79, g_X11_269, p_X11_269, g_X11_73, g_X11_239, g_X11_218, p_X11_218, g_X11_125, p_X11_125, g_X11_27, g_X11_58, g_X11_30, g_X11_61, g_X11_33, g_X11_64, g_X11_39, g_X11_70, g_X11_36, g_X11_67, G_X11_boards_254, sp_X11_next_e, G_X11_boards_288, sp_X11_readBoard_e, G_X11_boards_272, sp_X11_isSign_e, G_X11_boards_257, sp_X11_must_e, G_X11_boards_103, sp_X11_answer_e, G_X11_boards_92, sp_X11_staleAll_e]
  refine bo_27 (T := μ 105) (L := μ 85 31) (μ0 := μ) hR h2 27 0 _ (by omega) (by omega) (by omega) ?_ ?_ ?_ ?_ ?_ ?_ ⟨fun a j n1 n2 n3 => ?_, ?_, fun j hj => ?_⟩ (fun j hj => ?_) (fun ν l1 haf => bo_54 (μ0 := μ) hR h2 h3 (fun ν1 l2 haf2 => bo_81 hR h2 (m_run_le h3) h3.2 haf2 rfl rfl hk) N 0 ν l1 (by omega) haf)
  · funext j
    simp [u_app]
  · simp [u_app]
  · simp [u_app]
  · simp [u_app]
  · simp [u_app]
  · simp [u_app]
  · rw [u_app, if_neg (by omega), u_app, if_neg (by omega), u_app, if_neg (by omega), u_app, if_neg (by omega), u_app, if_neg (by omega)]
  · simp [u_app]
  · rw [u_app, if_neg (by omega), u_app, if_neg (by omega), u_app, if_neg (by omega), u_app, if_neg (by omega), u_app, if_neg (by omega)]
    exact h1 j hj
  · rw [u_app, if_neg (by omega), u_app, if_neg (by omega), u_app, if_neg (by omega), u_app, if_neg (by omega), u_app, if_neg (by omega)]
    exact h1 j (by omega)
set_option maxRecDepth 100000 in
theorem C_X11_boards {l : Launch} {ad : Int → Nat} {D : va_G} {cy : Nat → ClassId} {Z : State → Prop} (hZ : q_Zg ad Z) : q_Ct l q_T q_N ad D cy Z yX11_boards cX11_boards 3 (some .int) rm_X11_boards sp_X11_boards := by
  obtain ⟨hf, hg, hld⟩ := q_chkS k_X11_boards
  refine q_met (rk := 0) q_wokT (by decide) rfl hf hg hld rfl (q_skS L2_X11_boards o2_X11_boards) ?_ ?_ ?_ ?_ B_X11_boards
  · intro i hi; exact absurd hi List.not_mem_nil
  · intro i hi
    have hi : i = 254 ∨ i = 288 ∨ i = 272 ∨ i = 257 ∨ i = 103 ∨ i = 92 := by simpa [u_X11_boards] using hi
    rcases hi with rfl | rfl | rfl | rfl | rfl | rfl
    · exact q_crV hZ.1 (C_X11_next hZ) rv_X11_next cm_X11_next (by decide +kernel) (by decide +kernel) (by decide +kernel) (by decide +kernel) (by decide +kernel) ⟨rfl, rfl⟩ (by decide)
    · exact q_crV hZ.1 (C_X11_readBoard hZ) rv_X11_readBoard cm_X11_readBoard (by decide +kernel) (by decide +kernel) (by decide +kernel) (by decide +kernel) (by decide +kernel) ⟨rfl, rfl⟩ (by decide)
    · exact q_crV hZ.1 (C_X11_isSign hZ) rv_X11_isSign cm_X11_isSign (by decide +kernel) (by decide +kernel) (by decide +kernel) (by decide +kernel) (by decide +kernel) ⟨rfl, rfl⟩ (by decide)
    · exact q_crV hZ.1 (C_X11_must hZ) rv_X11_must cm_X11_must (by decide +kernel) (by decide +kernel) (by decide +kernel) (by decide +kernel) (by decide +kernel) ⟨rfl, rfl⟩ (by decide)
    · exact q_crV hZ.1 (C_X11_answer hZ) rv_X11_answer cm_X11_answer (by decide +kernel) (by decide +kernel) (by decide +kernel) (by decide +kernel) (by decide +kernel) ⟨rfl, rfl⟩ (by decide)
    · exact q_crV hZ.1 (C_X11_staleAll hZ) rv_X11_staleAll cm_X11_staleAll (by decide +kernel) (by decide +kernel) (by decide +kernel) (by decide +kernel) (by decide +kernel) ⟨rfl, rfl⟩ (by decide)
  · intro i hi; exact absurd hi List.not_mem_nil
  · intro i hi; exact absurd hi List.not_mem_nil
theorem rv_X11_boards : q_rcv q_T yX11_boards.cls sp_X11_boards := by
  intro ra μ K h
  obtain ⟨this, rfl, h⟩ := sp_X11_boards_i h
  obtain rfl := h.1
  exact ⟨[], 85, 11, _, _, rfl, T_85, rfl, rfl⟩
theorem cm_X11_boards : Cond.code yX11_boards cX11_boards 3 (some .int) ∈ q_tb := by decide +kernel

