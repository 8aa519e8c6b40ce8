/-! class and reference, call by call: cell -/
theorem m_val_how {w h kind how how' num : Int} {sh A B C : Int → Int → Int} {x y : Int} (e : kind = 10 ∨ kind = 11 → how = how') : m_val w h kind how num sh A B C x y = m_val w h kind how' num sh A B C x y := by
  by_cases c : kind = 10 ∨ kind = 11
  · rw [e c]
  · unfold m_val m_F
    rw [if_neg (fun q => c (Or.inl q)), if_neg (fun q => c (Or.inr q)), if_neg (fun q => c (Or.inl q)), if_neg (fun q => c (Or.inr q))]
theorem m_V_how {w h : Int} {kd hw hw' rn : Int → Int} {of : Int → Int → Int} {sh : Int → Int → Int → Int} (e : ∀ b : Int, kd b = 10 ∨ kd b = 11 → hw b = hw' b) : ∀ n : Nat, m_V w h kd hw rn of sh n = m_V w h kd hw' rn of sh n
  | 0 => rfl
  | n + 1 => by
    funext b x y
    show (if b = (n : Int) then m_val w h (kd n) (hw n) (rn n) (sh (rn n)) (m_V w h kd hw rn of sh n (of n 0)) (m_V w h kd hw rn of sh n (of n 1)) (m_V w h kd hw rn of sh n (of n 2)) x y else m_V w h kd hw rn of sh n b x y) = (if b = (n : Int) then m_val w h (kd n) (hw' n) (rn n) (sh (rn n)) (m_V w h kd hw' rn of sh n (of n 0)) (m_V w h kd hw' rn of sh n (of n 1)) (m_V w h kd hw' rn of sh n (of n 2)) x y else m_V w h kd hw' rn of sh n b x y)
    rw [m_V_how e n, m_val_how (e n)]
theorem j_val {P Q w h n b x y : Int} {μ : QM} (hj : J9 P Q w h n μ) (b0 : 0 ≤ b) (b1 : b < n) (hxy : m_in w h x y) : n_V w h (μ 89) (μ 90) (μ 91) (m_ofM μ) (m_shM μ) b x y = c_vM μ P w h b x y := by
  obtain ⟨k1, -, ⟨s1, -⟩, -, k5, -⟩ := hj
  have hn := k1.1.2.2.2.2.2.2.2.1
  have hd := k1.1.2.2.1
  rw [show n_V w h (μ 89) (μ 90) (μ 91) (m_ofM μ) (m_shM μ) = n_V w h (μ 89) (fun b => if μ 89 b = 10 ∨ μ 89 b = 11 then μ 90 b else c_hM μ P b) (μ 91) (m_ofM μ) (m_shM μ) from m_V_how (fun b q => by
    show _ = (if μ 89 b = 10 ∨ μ 89 b = 11 then μ 90 b else c_hM μ P b)
    rw [if_pos q]) 10]
  refine n_V_loc (n := n) (L := fun _ _ => False) hd hn.2 (fun c c0 c1 => ?_) (fun c c0 c1 => (k1.1.2.2.2.2.2.2.2.2 c c0 c1).2.2.2.1) (fun c x y c0 c1 ck q _ => ?_) (fun _ _ _ _ _ _ _ _ _ _ _ q => q) (b + 1).toNat b x y (by omega) b0 b1 hxy (fun q => q)
  · obtain ⟨r1, r2, r3, r4, r5, r6, r7, r8, r9⟩ := k1.1.2.2.2.2.2.2.2.2 c c0 c1
    obtain ⟨p1, p2, p3, p4, p5, p6⟩ := k5.1 c c0 c1
    have := m_mn_b (μ (P + 3 + c) 2)
    refine ⟨p1.symm, ?_, p2.symm, fun k k0 k1 => ⟨(p6 k k0 ?_).symm, (r7 k k0 (by have k1 : k < m_mn (μ (P + 3 + c) 2) := k1; omega)).1, r8 k k0 k1⟩⟩
    · show (if μ 89 c = 10 ∨ μ 89 c = 11 then μ 90 c else c_hM μ P c) = c_hM μ P c
      by_cases q : μ 89 c = 10 ∨ μ 89 c = 11
      · rw [if_pos q]; exact (p4 q).symm
      · rw [if_neg q]
    · have k1 : k < m_mn (μ (P + 3 + c) 2) := k1
      rw [← p3, r2]
      exact k1
  · obtain ⟨r1, r2, r3, -⟩ := k1.1.2.2.2.2.2.2.2.2 c c0 c1
    have := r3 ck
    exact (s1 (c_rM μ P c) x y this.1 (by have := this.2; show μ (P + 3 + c) 4 < 4; omega) (by omega) (by omega) (by omega) (by omega)).symm
theorem m_cc_b {μ : QM} {nd : Int → Int} : ∀ n : Nat, 0 ≤ m_cc μ nd n ∧ m_cc μ nd n ≤ n
  | 0 => ⟨Int.le_refl _, Int.le_refl _⟩
  | n + 1 => by
    have := m_cc_b (μ := μ) (nd := nd) n
    show 0 ≤ m_cc μ nd n + (if _ then 1 else 0) ∧ m_cc μ nd n + (if _ then 1 else 0) ≤ ((n + 1 : Nat) : Int)
    split <;> omega
theorem cc_row {μ : QM} {nd : Int → Int} {b : Nat} (hf : ∀ t : Int, 0 ≤ t → t < 9 → μ 94 (9 * b + t) = q_b (q_bit (μ 21 b) t.toNat = true)) : ∀ t : Nat, t ≤ 9 → m_cc μ nd (9 * b + t) = m_cc μ nd (9 * b) + c_bc (q_and (nd b) (q_xor (μ 21 b) (-1))) t
  | 0, _ => by
    show m_cc μ nd (9 * b) = m_cc μ nd (9 * b) + 0
    omega
  | t + 1, ht => by
    have ih := cc_row (nd := nd) hf t (by omega)
    have e := hf t (by omega) (by omega)
    show m_cc μ nd (9 * b + t) + (if q_bit (nd (((9 * b + t : Nat) : Int) / 9)) (((9 * b + t : Nat) : Int) % 9).toNat = true ∧ μ 94 ((9 * b + t : Nat) : Int) = 0 then 1 else 0) = m_cc μ nd (9 * b) + (c_bc (q_and (nd b) (q_xor (μ 21 b) (-1))) t + (if q_bit (q_and (nd b) (q_xor (μ 21 b) (-1))) t = true then 1 else 0))
    rw [show ((9 * b + t : Nat) : Int) = 9 * (b : Int) + t by omega, e, ih, show (9 * (b : Int) + t) / 9 = b by omega, show (9 * (b : Int) + t) % 9 = t by omega, show ((t : Int).toNat) = t by omega, n_andn]
    have : (if q_bit (nd b) t = true ∧ q_b (q_bit (μ 21 b) t = true) = 0 then (1 : Int) else 0) = (if (q_bit (nd b) t && !q_bit (μ 21 b) t) = true then 1 else 0) := by
      unfold q_b
      cases q_bit (nd b) t <;> cases q_bit (μ 21 b) t <;> simp
    rw [this]
    omega
theorem cc_all {μ : QM} {nd : Int → Int} (hf : ∀ b t : Int, 0 ≤ b → b < 10 → 0 ≤ t → t < 9 → μ 94 (9 * b + t) = q_b (q_bit (μ 21 b) t.toNat = true)) : ∀ n : Nat, n ≤ 10 → m_cc μ nd (9 * n) = c_mc μ nd n
  | 0, _ => rfl
  | n + 1, hn => by
    have e := cc_row (μ := μ) (nd := nd) (b := n) (fun t t0 t1 => hf n t (by omega) (by omega) t0 t1) 9 (by omega)
    show m_cc μ nd (9 * (n + 1)) = c_mc μ nd n + c_bc (q_and (nd n) (q_xor (μ 21 n) (-1))) 9
    rw [show 9 * (n + 1) = 9 * n + 9 by omega, e, cc_all hf n (by omega)]
theorem m_cc_cg {μ ν : QM} {nd : Int → Int} (e : ν 94 = μ 94) : ∀ n : Nat, m_cc ν nd n = m_cc μ nd n
  | 0 => rfl
  | n + 1 => by
    show m_cc ν nd n + (if _ ∧ ν 94 (n : Int) = 0 then 1 else 0) = m_cc μ nd n + (if _ ∧ μ 94 (n : Int) = 0 then 1 else 0)
    rw [m_cc_cg e n, e]
theorem ce_J {P Q w h n board : Int} {μ ν1 ν : QM} {nd : Int → Int} (hj : J9 P Q w h n μ) (hB : 0 ≤ board ∧ board < n) (hnd : ∀ (j : Int) (t : Nat), q_bit (nd j) t = true → 0 ≤ j ∧ j ≤ board) (f1 : c_af μ ν1) (hok : c_ok ν1 P w h n) (hb : ∀ (b : Int) (t : Nat), 0 ≤ b → b < 10 → (q_bit (ν1 21 b) t = true ↔ q_bit (μ 21 b) t = true ∨ q_bit (nd b) t = true)) (h6 : ν1 20 6 = ν 85 14) (h22 : ∀ j : Int, 0 ≤ j → j < 10 → q_mk (ν1 22 j)) (f2 : m_cfr ν1 ν) (e94 : ∀ j : Int, 0 ≤ j → j < 90 → ν 94 j = if 0 ≤ j ∧ j < 9 * (board + 1) ∧ q_bit (nd (j / 9)) (j % 9).toNat = true then 1 else μ 94 j) (e94n : ∀ j : Int, ν 94 j = 0 ∨ ν 94 j = 1) : J9 P Q w h n ν := by
  obtain ⟨k1, ⟨⟨a1, a2, a3, a4⟩, ⟨a5, a6, a7, a8⟩, ⟨a9, a10⟩, ⟨a11, a12⟩, a13, a14, a15⟩, k3, k4, k5, ⟨k6, k7⟩⟩ := hj
  have hP := k1.1.1
  have hn := k1.1.2.2.2.2.2.2.2.1
  have g1 : ∀ a j : Int, a < 85 → ν a j = ν1 a j := fun a j q => f2 a j (by omega) (by omega) (by omega) (by omega) (by omega) (by omega)
  have g : ∀ a j : Int, (a = 0 ∨ (4 ≤ a ∧ a < 8) ∨ (9 ≤ a ∧ a ≤ 14) ∨ (39 ≤ a ∧ a ≤ 84) ∨ (86 ≤ a ∧ a ≤ 93) ∨ a = 104 ∨ a = 105 ∨ (a = 85 ∧ (j = 1 ∨ j = 2 ∨ j = 3 ∨ j = 7 ∨ j = 31 ∨ j = 36))) → ν a j = μ a j := fun a j q => (f2 a j (by omega) (by omega) (by omega) (by omega) (by omega) (by omega)).trans (f1 a j (by omega) (by omega) (by omega) (by omega) (by omega) (by omega) (by omega))
  refine ⟨c_ok_cg (fun a j q => g1 a j (by omega)) hok, ⟨⟨?_, ?_, a3, a4⟩, ⟨?_, ?_, ?_, ?_⟩, ⟨?_, ?_⟩, ⟨?_, ?_⟩, ?_, fun j j0 j1 => ?_, fun j q => ?_⟩, j_s_jk (fun a j q => g a j (by omega)) k3, j_t_cg (fun a j q => g a j (by omega)) k4, j_p_jk hP a3 hn.2 (fun a j q => g a j (by omega)) k5, ⟨fun b t b0 b1 t0 t1 => ?_, e94n⟩⟩
  · rw [g 0 5 (by decide)]; exact a1
  · rw [g 0 6 (by decide)]; exact a2
  · rw [g P 2 (by omega)]; exact a5
  · rw [g 85 7 (by decide)]; exact a6
  · rw [g 85 2 (by decide)]; exact a7
  · rw [g 85 3 (by decide)]; exact a8
  · rw [g 0 7 (by decide), g 85 36 (by decide)]; exact a9
  · rw [g 85 36 (by decide)]; exact a10
  · rw [g 0 8 (by decide), g 85 1 (by decide)]; exact a11
  · rw [g 85 1 (by decide)]; exact a12
  · rw [g1 20 6 (by decide)]; exact h6
  · rw [g1 22 j (by omega)]; exact h22 j j0 j1
  · rw [g 104 j (by omega)]; exact a15 j q
  · have hbt := hb b t.toNat b0 b1
    rw [g1 21 b (by omega), e94 _ (by omega) (by omega), show (9 * b + t) / 9 = b by omega, show (9 * b + t) % 9 = t by omega, k6 b t b0 b1 t0 t1]
    by_cases q : q_bit (nd b) t.toNat = true
    · have := hnd b _ q
      rw [if_pos ⟨by omega, by omega, q⟩, q_bt (hbt.mpr (Or.inr q))]
    · rw [if_neg (fun z => q z.2.2)]
      by_cases q2 : q_bit (μ 21 b) t.toNat = true
      · rw [q_bt q2, q_bt (hbt.mpr (Or.inl q2))]
      · rw [q_bf q2, q_bf (fun z => by rcases hbt.mp z with z | z; exact q2 z; exact q z)]
theorem J_cell {c : Nat} {μ : QM} {b x y : Int} (hb : q_r b) (hx : q_r x) (hy : q_r y) (hJ : J c μ) : sp_X10_cell ([.inl y, .inl x, .inl b] ++ [.inr (.inr 0)]) μ (j_E c sp_X11_cell [.inl y, .inl x, .inl b]) := by
  show sp_X10_cell [.inl y, .inl x, .inl b, .inr (.inr 0)] μ _
  rw [sp_X10_cell_e]
  obtain ⟨h1, P, Q, w, h, n, hj⟩ := id hJ
  have hbok := J9_bok hj
  have hd := hj.1.1.2.2.1
  have hn := hj.1.1.2.2.2.2.2.2.2.1
  have a1 := hj.2.1.1.1
  have a5 := hj.2.1.2.1.1
  have a6 := hj.2.1.2.1.2.1
  have a7 := hj.2.1.2.1.2.2.1
  have a8 := hj.2.1.2.1.2.2.2
  have a13 := hj.2.1.2.2.2.2.1
  have a14 := hj.2.1.2.2.2.2.2.1
  obtain ⟨k6, k7⟩ := hj.2.2.2.2.2
  refine ⟨rfl, ⟨hb, hx, hy⟩, P, w, h, n, hj.1, a1, a5, a14, fun q => ?_, fun q ν1 f1 hok hbt h6 h22 => ?_⟩
  · refine ⟨-2000000000, rfl, by decide, ?_⟩
    show sp_X11_cell [.inl y, .inl x, .inl b, .inr (.inr 85)] _ _
    rw [sp_X11_cell_e, a6, a7, a8, if_neg q]
    exact ⟨rfl, ⟨hb, hx, hy⟩, hbok, k7, rfl, J_of hJ (fun a j q => j_up0 q)⟩
  · have er : ∀ a : Int, 85 ≤ a → ν1 a = μ a := fun a z => funext fun j => f1 a j (by omega) (by omega) (by omega) (by omega) (by omega) (by omega) (by omega)
    have hv := j_val hj q.1.1 q.1.2 q.2
    have hbok' : m_bok ν1 := by
      unfold m_bok m_rb at hbok ⊢
      rw [er 85 (by omega), er 86 (by omega), er 89 (by omega), er 90 (by omega), er 91 (by omega), er 92 (by omega), er 93 (by omega)]
      exact hbok
    have vr : m_vr (c_vM μ P w h b x y) := by
      have := m_V_vr hbok (b + 1).toNat (by rw [a6]; omega) b x y q.1.1 (by omega) (by rw [a7, a8]; exact q.2)
      rw [show m_VM μ (b + 1).toNat b = n_V w h (μ 89) (μ 90) (μ 91) (m_ofM μ) (m_shM μ) b by
        show m_V (μ 85 2) (μ 85 3) (μ 89) (μ 90) (μ 91) (m_ofM μ) (m_shM μ) (b + 1).toNat b = _
        rw [a7, a8]
        exact m_V_10 (by omega) (by omega), hv] at this
      exact this
    refine ⟨_, rfl, by omega, ?_⟩
    show sp_X11_cell [.inl y, .inl x, .inl b, .inr (.inr 85)] _ _
    rw [sp_X11_cell_e]
    refine ⟨rfl, ⟨hb, hx, hy⟩, hbok', by rw [er 94 (by omega)]; exact k7, ?_⟩
    have eV : m_VM ν1 (b + 1).toNat b x y = c_vM μ P w h b x y := by
      show m_V (ν1 85 2) (ν1 85 3) (ν1 89) (ν1 90) (ν1 91) (fun b k => ν1 92 (3 * b + k)) (fun s x y => ν1 86 (144 * s + 12 * y + x)) (b + 1).toNat b x y = _
      rw [er 85 (by omega), er 86 (by omega), er 89 (by omega), er 90 (by omega), er 91 (by omega), er 92 (by omega), a7, a8, m_V_10 (n := (b + 1).toNat) (by omega) (by omega)]
      exact hv
    rw [eV, er 85 (by omega), a6, a7, a8, if_pos q]
    have tl := n_tl hd q.2
    have ec := c_ti_e x y
    rw [show (((c_ti x y).toNat : Nat) : Int) = y / 4 * 3 + x / 4 by omega] at tl
    have end9 : m_nd w h (ν1 89) (ν1 93) (m_ofM ν1) b (y / 4 * 3 + x / 4) = m_nd w h (c_kM μ P) (c_mM μ P) (c_oM μ P) b (c_ti x y) := by
      show m_nd w h (ν1 89) (ν1 93) (fun b k => ν1 92 (3 * b + k)) b (y / 4 * 3 + x / 4) = _
      rw [er 89 (by omega), er 92 (by omega), er 93 (by omega), J9_nd hj q.1.2]
    rw [end9]
    have hnd : ∀ (j : Int) (t : Nat), q_bit (m_nd w h (c_kM μ P) (c_mM μ P) (c_oM μ P) b (c_ti x y) j) t = true → 0 ≤ j ∧ j ≤ b := fun j t z => n_in q.1.1 tl (c_ro_rok hj.1.1 (show b + 1 ≤ n by omega)) z
    intro ν f2 e94 e14
    have ecc : m_cc ν1 (m_nd w h (c_kM μ P) (c_mM μ P) (c_oM μ P) b (c_ti x y)) (9 * (b + 1)).toNat = c_mc μ (m_nd w h (c_kM μ P) (c_mM μ P) (c_oM μ P) b (c_ti x y)) (b + 1).toNat := by
      rw [m_cc_cg (er 94 (by omega)), show (9 * (b + 1)).toNat = 9 * (b + 1).toNat by omega]
      exact cc_all k6 (b + 1).toNat (by omega)
    have bcc := m_cc_b (μ := ν1) (nd := m_nd w h (c_kM μ P) (c_mM μ P) (c_oM μ P) b (c_ti x y)) (9 * (b + 1)).toNat
    refine ⟨rfl, ?_, P, Q, w, h, n, ce_J (nd := m_nd w h (c_kM μ P) (c_mM μ P) (c_oM μ P) b (c_ti x y)) hj q.1 hnd f1 hok hbt ?_ h22 f2 (fun j j0 j1 => ?_) (fun j => ?_)⟩
    · rw [e14]
      omega
    · rw [h6, e14, ecc, a13]
    · rw [e94 j j0 j1]
      unfold m_cf
      rw [er 94 (by omega)]
    · by_cases z : 0 ≤ j ∧ j < 90
      · rw [e94 j z.1 z.2]
        unfold m_cf
        rw [er 94 (by omega)]
        split
        · exact Or.inr rfl
        · exact k7 j
      · rw [f2 94 j (by omega) (by omega) (by omega) (by omega) (by omega) (by omega), er 94 (by omega)]
        exact k7 j

